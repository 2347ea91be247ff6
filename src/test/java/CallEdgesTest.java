/** The edges of each call, promise by promise: the least, the most, one too many, and that a refused call changes nothing. */
public final class CallEdgesTest {
    private static final String ARGUMENT = "IllegalArgumentException", STATE = "IllegalStateException";
    private static final String BOUNDS = "IndexOutOfBoundsException";

    public static void main(String[] args) {
        feed();
        load();
        loadDropsAndKeeps();
        keys();
        tick();
        map();
        unmap();
        setWrap();
        textAndCursor();
        given();
        cursors();
        registers();
        marksFoldsJumps();
        states();
        agrees();
        Probe.end();
    }

    /** All that calls tell of a pad, so that it is seen whether something has changed. */
    private static String all(ModalPad pad) {
        return Probe.standing(pad) + "|" + pad.given() + "|" + pad.waiting() + "|" + pad.failures() + "|" + pad.taken();
    }

    /** A pad of which each part has something. */
    private static ModalPad rich() {
        ModalPad pad = Probe.pad("a b\nbb\nc b\nd\ne");
        Probe.type(pad, "majyyx\"bdw4GzfjG:zz{ENTER}gg/b{ENTER}gm");
        pad.map(ModalPad.NORMAL, Probe.packed("lll"), 'x', false);
        Probe.type(pad, "ll");
        return pad;
    }

    /** A call is refused with an exception, and changes nothing, neither what is seen nor what comes of it. */
    private static void refused(ModalPad pad, String what, Runnable call, String want) {
        String ahead = all(pad);
        Probe.due(what, Probe.thrown(call), want);
        Probe.due(what + " changes nothing", all(pad), ahead);
        Probe.due(what + " leaves agrees", pad.agrees(), true);
    }

    private static void feed() {
        ModalPad pad = rich();
        Probe.due("the lowest and the greatest code", pad.feed(Probe.packed(32, 126, 10)), 3);
        for (int code : new int[] {1, 9, 11, 13, 31, 127, 128, 138, 160, 255}) {
            for (int at = 0; at < 8; at++) {
                long bytes = Probe.packed("ab") & ~(255L << 8 * at) | (long) code << 8 * at;
                refused(pad, "feed of " + code + " as byte " + at, () -> pad.feed(bytes), ARGUMENT);
            }
        }
        refused(pad, "feed of -1", () -> pad.feed(-1), ARGUMENT);
        refused(pad, "feed of the least number", () -> pad.feed(Long.MIN_VALUE), ARGUMENT);
        Probe.due("none of it was put", pad.feed(0), 3);
        for (int i = 0; i < 74; i++) {
            pad.feed(Probe.packed("zzzzzzz\n"));
        }
        Probe.due("595", pad.feed(0), 595);
        refused(pad, "601", () -> pad.feed(Probe.packed("123456")), STATE);
        refused(pad, "603", () -> pad.feed(Probe.packed("12345678")), STATE);
        Probe.due("600", pad.feed(Probe.packed(0, '1', '2', 0, '3', '4', 0, '5')), 600);
        refused(pad, "one more", () -> pad.feed(10), STATE);
        refused(pad, "one more, in the highest byte", () -> pad.feed((long) 'x' << 56), STATE);
        refused(pad, "a wrong one when it is full", () -> pad.feed(7), ARGUMENT);
        Probe.due("nothing can be fed", pad.feed(0), 600);
    }

    private static void load() {
        ModalPad pad = rich();
        Probe.feed(pad, "x".repeat(61));
        refused(pad, "61 signs", pad::load, STATE);
        Probe.feed(pad, "\n");
        refused(pad, "in the first line", pad::load, STATE);
        Probe.due("the tape stays", pad.feed(0), 62);
        ModalPad last = rich();
        Probe.feed(last, "a\n" + "x".repeat(61));
        refused(last, "in the last line", last::load, STATE);
        ModalPad many = rich();
        Probe.feed(many, "\n".repeat(39));
        Probe.feed(many, "\n");
        refused(many, "41 lines", many::load, STATE);
        Probe.due("the tape stays", many.feed(0), 40);
        ModalPad full = rich();
        Probe.feed(full, "x".repeat(60) + "\n" + "y".repeat(60) + "\n".repeat(38));
        Probe.due("40 lines, and 60 signs", full.load(), 40);
        Probe.due("60", full.length(0) + full.length(1) + full.length(2), 120);
        Probe.due("the tape is empty", full.feed(0), 0);
        Probe.due("an empty tape is one line", full.load(), 1);
        Probe.due("which is empty", full.length(0), 0);
        Probe.feed(full, "\n");
        Probe.due("a line end is between two lines", full.load(), 2);
    }

    private static void loadDropsAndKeeps() {
        for (String keys : new String[] {"\"a", "3", "d", "d/x", ":2d", "v", "Vd2", "{RECT}f", "ix", "cw", "qz", "qzd"}) {
            ModalPad pad = Probe.pad("ab cd\nx");
            pad.map(ModalPad.NORMAL, Probe.packed("ZZ"), 'x', false);
            Probe.type(pad, "yw" + keys);
            Probe.feed(pad, "uvw");
            Probe.due("load behind " + keys, pad.load(), 1);
            Probe.due("mode", pad.mode() * 100 + pad.given(), 0);
            Probe.due("place", Probe.place(pad), 0);
            Probe.due("a register stays", Probe.register(pad, '0'), "1:ab ");
            Probe.type(pad, "qyxq");
            Probe.due("a recording begins anew", Probe.register(pad, 'y') + Probe.register(pad, 'z'), "1:x0:");
            Probe.type(pad, "ZZ");
            Probe.due("a map stays", Probe.text(pad), "w");
            Probe.due("no failure", pad.failures(), 0);
            Probe.due("agrees", pad.agrees(), true);
        }
        ModalPad pad = rich();
        Probe.due("two wait", pad.waiting(), 2);
        pad.load();
        Probe.due("keys that wait are dropped", pad.waiting(), 0);
        Probe.due("by ticks nothing comes", pad.tick(100) * 100 + Probe.place(pad), 0);
        Probe.due("marks, jumps, folds, further cursors", pad.mark('a') + pad.jumps() + pad.folds() + pad.cursors(), -1);
        Probe.due("states", pad.states() * 100 + pad.state(), 100);
        Probe.due("u", Probe.type(pad, "u"), 1);
        Probe.due("the failures stay", pad.failures(), 2);
    }

    private static void keys() {
        ModalPad pad = Probe.pad("abcdefgh");
        Probe.due("none", pad.keys(0), 0);
        Probe.due("bytes that are no keys", pad.keys(-1), 0);
        Probe.due("and others", pad.keys(Probe.packed(1, 7, 10, 11, 12, 14, 127, 128)), 0);
        Probe.due("are not taken", pad.taken(), 0);
        Probe.due("the lowest byte first", pad.keys(Probe.packed(0, '3', 255, 'l', 0, 'x', 10, 'h')), 0);
        Probe.due("place", Probe.text(pad) + Probe.place(pad) + pad.taken(), "abcefgh24");
        Probe.due("eight that fail", pad.keys(Probe.packed("QQQQQQQQ")), 8);
        Probe.due("none fails", pad.keys(Probe.packed("l")), 0);
        Probe.due("failures", pad.failures(), 8);
        Probe.due("the codes of all signs", pad.keys(Probe.packed('r', 126)) + pad.keys(Probe.packed('l', 'r', 32)), 0);
        Probe.due("text", Probe.text(pad), "abc~ gh");
    }

    private static void tick() {
        ModalPad pad = Probe.pad("abcdefgh");
        pad.map(ModalPad.NORMAL, Probe.packed("ll"), '$', false);
        Probe.type(pad, "l");
        pad.tick(4);
        for (int ticks : new int[] {0, -1, 101, Integer.MIN_VALUE, Integer.MAX_VALUE}) {
            refused(pad, "tick of " + ticks, () -> pad.tick(ticks), ARGUMENT);
        }
        Probe.due("it still waits", pad.waiting() * 10 + pad.column(), 10);
        Probe.due("the fifth tick", pad.tick(1), 0);
        Probe.due("takes it", pad.waiting() * 10 + pad.column(), 1);
        Probe.type(pad, "l");
        Probe.due("100 ticks", pad.tick(100) + pad.column(), 2);
        pad.tick(100);
        Probe.type(pad, "l");
        pad.tick(4);
        Probe.due("ticks ahead of a key do not count", pad.waiting(), 1);
        pad.tick(4);
        Probe.due("ticks are added up", pad.waiting() * 10 + pad.column(), 3);
        // where nothing waits, and no command is ended by ticks
        Probe.type(pad, "d2");
        Probe.due("given stays", pad.tick(50) * 10 + pad.given(), 2);
        Probe.due("agrees", pad.agrees(), true);
    }

    private static void map() {
        ModalPad pad = rich();
        for (int mode : new int[] {-1, 3, 4, 5, Integer.MIN_VALUE, Integer.MAX_VALUE}) {
            refused(pad, "map of " + mode, () -> pad.map(mode, 'a', 'b', false), ARGUMENT);
        }
        for (int code : new int[] {1, 7, 10, 11, 12, 14, 16, 17, 19, 21, 23, 26, 28, 31, 127, 128, 255}) {
            refused(pad, "map from " + code, () -> pad.map(0, code, 'b', false), ARGUMENT);
            refused(pad, "map to " + code, () -> pad.map(0, 'a', Probe.packed('x', 0, code), false), ARGUMENT);
        }
        refused(pad, "from no keys", () -> pad.map(0, 0, 'b', false), ARGUMENT);
        refused(pad, "from 5 keys", () -> pad.map(0, Probe.packed('a', 0, 'b', 'c', 0, 'd', 0, 'e'), 'b', false), ARGUMENT);
        refused(pad, "from 8 keys", () -> pad.map(0, Probe.packed("abcdefgh"), 'b', false), ARGUMENT);
        Probe.due("4 keys to 8", pad.map(0, Probe.packed(0, 'a', 0, 'b', 'c', 0, 'd'), Probe.packed("12345678"), true), 2);
        Probe.due("1 key to none", pad.map(1, (long) 'a' << 56, 0, true), 3);
        for (int i = 0; i < 9; i++) {
            Probe.due("others", pad.map(ModalPad.SELECTION, 'A' + i, 'b', true), 4 + i);
        }
        refused(pad, "13", () -> pad.map(0, 'a', 'b', false), STATE);
        refused(pad, "of the same keys in another mode", () -> pad.map(0, 'A', 'b', false), STATE);
        refused(pad, "wrong ones when it is full", () -> pad.map(0, 'a', 1, false), ARGUMENT);
        Probe.due("in place of one when it is full", pad.map(0, Probe.packed("lll"), 'D', false), 12);
        Probe.type(pad, "l");
        Probe.due("the new one is gone by", Probe.text(pad), "a \n\nc \nd\ne");
    }

    private static void unmap() {
        ModalPad pad = rich();
        for (int mode : new int[] {-1, 3, 4, 5, Integer.MIN_VALUE, Integer.MAX_VALUE}) {
            refused(pad, "unmap of " + mode, () -> pad.unmap(mode, Probe.packed("lll")), ARGUMENT);
        }
        for (int code : new int[] {1, 10, 14, 31, 127, 128, 255}) {
            refused(pad, "unmap from " + code, () -> pad.unmap(0, Probe.packed('l', 'l', 'l', code)), ARGUMENT);
        }
        refused(pad, "from no keys", () -> pad.unmap(0, 0), ARGUMENT);
        refused(pad, "from 5 keys", () -> pad.unmap(0, Probe.packed("lllll")), ARGUMENT);
        refused(pad, "from others", () -> pad.unmap(0, Probe.packed("ll")), STATE);
        refused(pad, "from more", () -> pad.unmap(0, Probe.packed("llll")), STATE);
        refused(pad, "of another mode", () -> pad.unmap(ModalPad.SELECTION, Probe.packed("lll")), STATE);
        Probe.due("the last one", pad.unmap(0, Probe.packed('l', 0, 'l', 0, 0, 'l')), 0);
        refused(pad, "once more", () -> pad.unmap(0, Probe.packed("lll")), STATE);
        Probe.due("two wait still", pad.waiting(), 2);
        Probe.type(pad, "h");
        Probe.due("and are taken as they are", pad.waiting(), 0);
        Probe.due("agrees", pad.agrees(), true);
    }

    private static void setWrap() {
        ModalPad pad = Probe.pad("a b a");
        Probe.due("on at first", pad.setWrap(true), true);
        Probe.due("still on", pad.setWrap(false), true);
        Probe.due("off", pad.setWrap(false), false);
        pad.load();
        Probe.due("load leaves it", pad.setWrap(true), false);
        Probe.due("on again", pad.setWrap(true), true);
        Probe.due("agrees", pad.agrees(), true);
    }

    private static void textAndCursor() {
        ModalPad pad = Probe.pad("ab\n\n" + "x".repeat(60));
        Probe.due("lines", pad.lines(), 3);
        Probe.due("lengths", pad.length(0) + " " + pad.length(1) + " " + pad.length(2), "2 0 60");
        Probe.due("the last sign", pad.sign(2, 59), 'x');
        for (int line : new int[] {-1, 3, 40, Integer.MIN_VALUE, Integer.MAX_VALUE}) {
            refused(pad, "length of " + line, () -> pad.length(line), BOUNDS);
            refused(pad, "sign in " + line, () -> pad.sign(line, 0), BOUNDS);
            refused(pad, "foldOf " + line, () -> pad.foldOf(line), BOUNDS);
        }
        for (int column : new int[] {-1, 2, 60, Integer.MIN_VALUE, Integer.MAX_VALUE}) {
            refused(pad, "sign at " + column, () -> pad.sign(0, column), BOUNDS);
        }
        refused(pad, "sign of an empty line", () -> pad.sign(1, 0), BOUNDS);
        refused(pad, "the 61st sign", () -> pad.sign(2, 60), BOUNDS);
        Probe.type(pad, "A");
        refused(pad, "the place of the cursor behind the line", () -> pad.sign(0, 2), BOUNDS);
        Probe.due("column in INSERT", pad.column(), 2);
        Probe.type(pad, "{ESC}G$");
        Probe.due("the last place", pad.line() * 100 + pad.column(), 259);
        Probe.type(pad, "A");
        Probe.due("column 60 in INSERT", pad.column(), 60);
        Probe.type(pad, "{ESC}dd");
        refused(pad, "a line that was taken out", () -> pad.length(2), BOUNDS);
    }

    private static void given() {
        String[] keys = {"", "\"", "\"a", "\"a9", "\"a99", "\"a99d", "\"a99d8", "\"a99d8/", "\"a99d8/x"};
        for (String given : keys) {
            ModalPad pad = Probe.pad("abc");
            Probe.type(pad, given);
            Probe.due("given behind " + given, pad.given(), given.length());
            Probe.type(pad, "{ESC}");
            Probe.due("none behind ESC", pad.given() * 10 + pad.failures(), 0);
        }
        ModalPad pad = Probe.pad("abc");
        Probe.type(pad, ":");
        Probe.due("an empty command line", pad.given(), 0);
        Probe.type(pad, "n" + "0".repeat(59));
        Probe.due("60 signs", pad.given(), 60);
        Probe.type(pad, "0");
        Probe.due("not 61", pad.given() * 10 + pad.failures(), 600);
        Probe.type(pad, "{ESC}ix");
        Probe.due("none in INSERT", pad.given(), 0);
    }

    private static void cursors() {
        ModalPad pad = Probe.pad("a".repeat(12));
        refused(pad, "none", () -> pad.cursorAt(0), BOUNDS);
        Probe.type(pad, "/a{ENTER}gm");
        Probe.due("10 with the main one", pad.cursors() * 100 + pad.column(), 901);
        Probe.due("the first and the last one", pad.cursorAt(0) * 100 + pad.cursorAt(8), 9);
        for (int place : new int[] {-1, 9, 10, Integer.MIN_VALUE, Integer.MAX_VALUE}) {
            refused(pad, "cursorAt " + place, () -> pad.cursorAt(place), BOUNDS);
        }
    }

    private static void registers() {
        ModalPad pad = rich();
        for (int name : new int[] {0, 31, 32, '!', '#', ',', '.', '/', ':', '@', 'A', 'B', 'Z', '[', '_', '`', '{', 127,
            128, 255, 'a' + 256, 0xffff}) {
            char register = (char) name;
            refused(pad, "kind of " + name, () -> pad.registerKind(register), ARGUMENT);
            refused(pad, "length of " + name, () -> pad.registerLength(register), ARGUMENT);
            refused(pad, "sign of " + name, () -> pad.registerAt(register, 0), ARGUMENT);
        }
        Probe.due("b", Probe.register(pad, 'b'), "1:b");
        for (int place : new int[] {-1, 1, 3000, Integer.MIN_VALUE, Integer.MAX_VALUE}) {
            refused(pad, "place " + place, () -> pad.registerAt('b', place), BOUNDS);
        }
        refused(pad, "a place of an empty one", () -> pad.registerAt('z', 0), BOUNDS);
        Probe.due("lines have a line end at last", pad.registerAt('0', pad.registerLength('0') - 1), (char) 10);
    }

    private static void marksFoldsJumps() {
        ModalPad pad = Probe.pad("\n".repeat(38) + "\n" + "x".repeat(60));
        Probe.due("none", pad.mark('a') + pad.foldOf(0) + pad.foldOf(39) + pad.jumps() + pad.folds(), -3);
        for (int letter : new int[] {0, 32, '0', '@', 'A', 'Z', '`', '{', 255, 'a' + 256, 0xffff}) {
            refused(pad, "mark " + letter, () -> pad.mark((char) letter), ARGUMENT);
        }
        Probe.type(pad, "maG$mz");
        Probe.due("the first and the last place", pad.mark('a') + " " + pad.mark('z'), "0 3959");
        Probe.type(pad, "ggzfG");
        Probe.due("a fold of all lines", pad.foldOf(0) + " " + pad.foldOf(39) + " " + pad.folds(), "39 39 1");
        Probe.type(pad, "zd");
        for (int i = 2; i <= 12; i++) {
            Probe.type(pad, i + "G");
        }
        Probe.due("10 jumps at most", pad.jumps(), 10);
    }

    private static void states() {
        ModalPad pad = Probe.pad("a");
        Probe.due("0 at first", pad.state() * 10 + pad.states(), 1);
        Probe.due("NONE for 0", pad.parent(0), ModalPad.NONE);
        refused(pad, "parent of 1", () -> pad.parent(1), BOUNDS);
        for (int i = 0; i < 98; i++) {
            Probe.type(pad, "~");
        }
        Probe.due("99", pad.states() * 1000 + pad.state() * 10 + pad.failures(), 99980);
        Probe.due("the last one", pad.parent(98), 97);
        for (int state : new int[] {-1, 99, 100, Integer.MIN_VALUE, Integer.MAX_VALUE}) {
            refused(pad, "parent of " + state, () -> pad.parent(state), BOUNDS);
        }
        Probe.type(pad, "~");
        Probe.due("with the 100th it is the only one", pad.states() * 10 + pad.state(), 10);
        Probe.due("and came from none", pad.parent(0), ModalPad.NONE);
        refused(pad, "parent of 1", () -> pad.parent(1), BOUNDS);
    }

    private static void agrees() {
        ModalPad pad = new ModalPad();
        Probe.due("of a new one", pad.agrees(), true);
        Probe.due("asked again", pad.agrees(), true);
        pad.setWrap(false);
        pad.map(ModalPad.NORMAL, 'K', Probe.packed("ixyz"), false);
        pad.map(ModalPad.INSERT, 'z', Probe.packed("1{ESC}u"), true);
        Probe.type(pad, "K");
        Probe.due("in INSERT", pad.agrees(), true);
        Probe.feed(pad, "abc");
        pad.load();
        pad.setWrap(true);
        Probe.type(pad, "/a{ENTER}qaxqvd:3");
        Probe.due("in LINE", pad.agrees(), true);
        Probe.type(pad, "{ENTER}KQ\"r");
        Probe.due("within a command", pad.agrees(), true);
        pad.map(ModalPad.NORMAL, 'b', Probe.packed("bb"), false);
        Probe.type(pad, "{ESC}b");
        Probe.due("keys that were dropped are no failure of a command", pad.agrees(), true);
    }
}
