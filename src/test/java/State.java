/** All that an object tells of itself, as a text, so that two states can be held beside each other. */
final class State {
    private State() {
    }

    /** What is there now, but for STATUS; who bore what by HEARD stands for what is HEARD. */
    static String of(TwinInk x) {
        StringBuilder b = new StringBuilder(world(x));
        b.append(" fault ").append(x.fault()).append(" acts ").append(x.count(9));
        b.append(" heard ").append(x.count(10)).append(" tape ").append(x.count(11));
        for (int what = 0; what < 3; what++) {
            b.append(" borne ").append(x.borne(what));
        }
        for (int what = 0; what < 2; what++) {
            b.append(" ask ").append(x.ask(what));
        }
        return b.toString();
    }

    static String status(TwinInk x) {
        return x.count(12) + " " + x.count(13) + " " + x.count(14);
    }

    /** How it is ahead of each ACT that is kept; the object's ACTS are undone by it. */
    static String undone(TwinInk x) {
        StringBuilder b = new StringBuilder();
        int sheets = x.count(0);
        for (int i = 0; i <= 41; i++) {
            int left = x.undo();
            if (left == TwinInk.NONE) {
                return b.toString();
            }
            b.append(left).append(": day ").append(x.count(4)).append(" known ").append(x.count(7));
            for (int sheet = 0; sheet < sheets; sheet++) {
                b.append(" sheet ").append(x.sheet(sheet, 0)).append(' ').append(x.sheet(sheet, 1));
                b.append(' ').append(x.sheet(sheet, 2)).append(' ').append(x.sheet(sheet, 3));
            }
            b.append('\n');
        }
        return b + "more than 40 ACTS";
    }

    /** How it is by the image; the object is as the image then. */
    static String restored(TwinInk x) {
        return x.restore() ? of(x) : "no image";
    }

    private static String world(TwinInk x) {
        StringBuilder b = new StringBuilder();
        for (int what = 0; what <= 8; what++) {
            b.append(" count ").append(x.count(what));
        }
        for (int sheet = 0; sheet < x.count(0); sheet++) {
            for (int what = 0; what < 5; what++) {
                b.append(what == 0 ? " sheet " : " ").append(x.sheet(sheet, what));
            }
        }
        for (int clerk = 0; clerk < x.count(1); clerk++) {
            for (int what = 0; what < 4; what++) {
                b.append(what == 0 ? " clerk " : " ").append(x.clerk(clerk, what));
            }
        }
        for (int word = 0; word < x.count(2); word++) {
            for (int what = 0; what < 4; what++) {
                b.append(what == 0 ? " word " : " ").append(x.word(word, what));
            }
        }
        for (int town = 0; town < 4; town++) {
            for (int what = 0; what < 5; what++) {
                b.append(what == 0 ? " town " : " ").append(x.town(town, what));
            }
        }
        return b.toString();
    }
}
