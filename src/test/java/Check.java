import java.util.NoSuchElementException;

/** Counts the calls whose answers are not as due, and tells each of them. */
final class Check {
    /** A call that answers a number, or throws. */
    interface Call {
        int answer();
    }

    private int wrong = 0;

    void is(String call, int got, int due) {
        if (got != due) {
            wrong++;
            System.out.println(call + " answered " + got + ", due is " + due);
        }
    }

    void is(String call, boolean got, boolean due) {
        is(call, got ? 1 : 0, due ? 1 : 0);
    }

    void is(String call, String got, String due) {
        if (!got.equals(due)) {
            wrong++;
            System.out.println(call + " answered\n" + got + "\ndue is\n" + due);
        }
    }

    void noSuch(String call, Call c) {
        isThrown(call, c, NoSuchElementException.class);
    }

    void illegal(String call, Call c) {
        isThrown(call, c, IllegalArgumentException.class);
    }

    private void isThrown(String call, Call c, Class<?> due) {
        String got;
        try {
            got = "" + c.answer();
        } catch (RuntimeException e) {
            if (e.getClass() == due) {
                return;
            }
            got = e.toString();
        }
        wrong++;
        System.out.println(call + " answered " + got + ", due is " + due.getSimpleName());
    }

    /** The twenty bytes from a place of a text on, as the numbers that feed() takes; blanks behind its end. */
    static int[] numbersAt(String text, int at) {
        int[] n = new int[5];
        for (int i = 0; i < 20; i++) {
            int c = at + i < text.length() ? text.charAt(at + i) & 255 : ' ';
            n[i / 4] = n[i / 4] << 8 | c;
        }
        return n;
    }

    /** The answer is the last feed()'s. */
    static int feed(TwinInk x, String text) {
        int tape = x.count(11);
        for (int at = 0; at < text.length(); at += 20) {
            int[] n = numbersAt(text, at);
            tape = x.feed(n[0], n[1], n[2], n[3], n[4]);
        }
        return tape;
    }

    /** Tells the text; the answer is office()'s. */
    static int tell(TwinInk x, String text) {
        feed(x, text);
        return x.office(text.length());
    }

    /** A new object with this office; a text with a fault counts as wrong. */
    TwinInk of(String text) {
        TwinInk x = new TwinInk();
        is("office of '" + text + "'", tell(x, text), 0);
        return x;
    }

    void fault(String text, int code, int place) {
        TwinInk x = new TwinInk();
        is("office of '" + text + "'", tell(x, text), code);
        is("fault of '" + text + "'", x.fault(), place);
    }

    void end() {
        System.exit(wrong == 0 ? 0 : 1);
    }
}
