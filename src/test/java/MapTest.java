/** Maps and keys that wait (promises 4 to 7, 15, 16, 29 to 31). */
public final class MapTest {
    public static void main(String[] args) {
        looking();
        waiting();
        ticking();
        modes();
        loops();
        limitOfLoops();
        failures();
        changing();
        wrongInputs();
        Probe.end();
    }

    private static int map(ModalPad pad, int mode, String from, String to, boolean isFinal) {
        return pad.map(mode, Probe.packed(from), Probe.packed(to), isFinal);
    }

    private static void shows(ModalPad pad, String what, String wantText, int wantPlace, int wantTaken) {
        Probe.due(what + ": text", Probe.text(pad), wantText);
        Probe.due(what + ": place", Probe.place(pad), wantPlace);
        Probe.due(what + ": taken", pad.taken(), wantTaken);
        Probe.due(what + ": agrees", pad.agrees(), true);
    }

    private static void looking() {
        ModalPad pad = Probe.pad("abcdef");
        map(pad, ModalPad.NORMAL, "K", "xl", false);
        Probe.type(pad, "K");
        shows(pad, "a map", "bcdef", 1, 2);
        map(pad, ModalPad.NORMAL, "M", "KK", false);
        Probe.type(pad, "M");
        shows(pad, "maps of maps", "bdf", 2, 2 + 4);
        map(pad, ModalPad.NORMAL, "Q", "K0", true);
        Probe.due("FINAL", Probe.type(pad, "Q"), 1);
        Probe.due("what comes from maps is dropped by a failure", pad.column(), 2);
        Probe.due("taken", pad.taken(), 7);
        // only where a command begins
        map(pad, ModalPad.NORMAL, "d", "x", false);
        map(pad, ModalPad.NORMAL, "w", "l", false);
        Probe.type(pad, "0ywfdd");
        shows(pad, "only where a command begins", "bf", 1, 7 + 5 + 1);
        // none at all
        map(pad, ModalPad.NORMAL, "k", "", true);
        Probe.due("a map to no keys", Probe.type(pad, "k"), 0);
        Probe.due("taken", pad.taken(), 13);
        // not what is played
        pad = Probe.pad("abcdef");
        Probe.type(pad, "qaxq");
        map(pad, ModalPad.NORMAL, "x", "D", false);
        Probe.type(pad, "@a");
        Probe.due("keys of @", Probe.text(pad), "cdef");
        Probe.type(pad, ".");
        Probe.due("keys of .", Probe.text(pad), "def");
        Probe.type(pad, ":nx{ENTER}");
        Probe.due("keys of n", Probe.text(pad), "ef");
        Probe.type(pad, "x");
        Probe.due("but what is typed", Probe.text(pad), "");
        Probe.due("agrees", pad.agrees(), true);
    }

    private static void waiting() {
        ModalPad pad = Probe.pad("abcdefghij");
        map(pad, ModalPad.NORMAL, "ll", "$", true);
        map(pad, ModalPad.NORMAL, "lll", "0", true);
        map(pad, ModalPad.NORMAL, "lxyz", "D", true);
        Probe.type(pad, "l");
        Probe.due("it waits", pad.waiting() * 100 + Probe.place(pad) * 10 + pad.taken(), 100);
        Probe.type(pad, "l");
        Probe.due("a map that begins a longer one", pad.waiting() * 100 + Probe.place(pad), 200);
        Probe.type(pad, "h");
        Probe.due("the longest one that there is", pad.waiting() * 100 + Probe.place(pad), 8);
        Probe.type(pad, "ll");
        Probe.type(pad, "l");
        Probe.due("the longer one, at once", pad.waiting() * 100 + Probe.place(pad), 0);
        Probe.type(pad, "lxy");
        Probe.due("three wait", pad.waiting(), 3);
        Probe.type(pad, "h");
        Probe.due("none of a map: as they are", pad.waiting() + Probe.text(pad), "0acdefghij");
        Probe.due("y and h are a command", Probe.register(pad, '0') + pad.taken(), "1:a" + (2 + 1 + 4));
        Probe.type(pad, "lxl");
        Probe.due("the rest is looked at anew", pad.waiting() + Probe.text(pad), "1adefghij");
        Probe.due("agrees", pad.agrees(), true);
        Probe.feed(pad, "xyz");
        pad.load();
        Probe.due("load drops what waits", pad.waiting(), 0);
        Probe.type(pad, "l");
        Probe.due("ESC is none of it", Probe.type(pad, "{ESC}") * 10 + pad.waiting(), 0);
        Probe.due("what waited is taken", pad.column(), 1);
    }

    private static void ticking() {
        ModalPad pad = Probe.pad("abcdefghij");
        map(pad, ModalPad.NORMAL, "ll", "$", true);
        map(pad, ModalPad.NORMAL, "lll", "0", true);
        map(pad, ModalPad.NORMAL, "h", "l", false);
        map(pad, ModalPad.NORMAL, "hhhh", "D", false);
        Probe.type(pad, "l");
        pad.tick(4);
        Probe.due("4 ticks", pad.waiting(), 1);
        pad.tick(1);
        Probe.due("5 ticks", pad.waiting() * 100 + pad.column(), 1);
        Probe.type(pad, "l");
        pad.tick(4);
        Probe.type(pad, "l");
        pad.tick(4);
        Probe.due("a key begins anew", pad.waiting() * 100 + pad.column(), 201);
        pad.keys(Probe.packed(200, 1));
        pad.tick(1);
        Probe.due("one that is none does not", pad.waiting() * 100 + pad.column(), 9);
        Probe.type(pad, "0h");
        Probe.due("one more waits", pad.waiting() * 100 + pad.column(), 100);
        pad.tick(100);
        Probe.due("what maps make of it does not wait", pad.waiting() * 100 + pad.column(), 1);
        Probe.type(pad, "0hhh");
        pad.tick(5);
        Probe.due("all of it", pad.waiting() * 100 + pad.column(), 3);
        Probe.due("nothing waits", pad.tick(50), 0);
        map(pad, ModalPad.NORMAL, "Zq", "0", false);
        map(pad, ModalPad.NORMAL, "ZZZ", "0", false);
        Probe.type(pad, "ZZ");
        Probe.due("failures by ticks", pad.tick(5), 2);
        for (int ticks : new int[] {0, -1, 101, Integer.MIN_VALUE, Integer.MAX_VALUE}) {
            Probe.due("ticks " + ticks, Probe.thrown(() -> pad.tick(ticks)), "IllegalArgumentException");
        }
        Probe.due("agrees", pad.agrees(), true);
    }

    private static void modes() {
        ModalPad pad = Probe.pad("abc def");
        map(pad, ModalPad.INSERT, "jk", "{ESC}", true);
        map(pad, ModalPad.INSERT, "q", "12", false);
        map(pad, ModalPad.INSERT, "2", "two", true);
        map(pad, ModalPad.SELECTION, "q", "d", true);
        map(pad, ModalPad.SELECTION, "w", "iw", true);
        Probe.type(pad, "ixj");
        Probe.due("it waits in INSERT", pad.waiting() + Probe.text(pad), "1xabc def");
        Probe.type(pad, "jk");
        Probe.due("it ends INSERT", pad.mode() + Probe.text(pad), "0xjabc def");
        Probe.type(pad, "iqjk");
        Probe.due("maps of maps in INSERT", Probe.text(pad), "x1twojabc def");
        Probe.type(pad, "$vwq");
        Probe.due("maps of selections", Probe.text(pad), "x1twojabc ");
        Probe.type(pad, "V2");
        Probe.due("given", pad.given(), 1);
        Probe.due("but where a command begins", Probe.type(pad, "q"), 1);
        Probe.type(pad, "q:sq2w{BACK}/a/b/{ENTER}");
        Probe.due("not in LINE", pad.failures(), 2);
        Probe.due("LINES were taken out", Probe.text(pad), "");
        Probe.type(pad, "{RECT}");
        Probe.due("RECTS, too", Probe.type(pad, "q"), 1);
        Probe.due("agrees", pad.agrees(), true);
    }

    private static void loops() {
        ModalPad pad = Probe.pad("abc");
        map(pad, ModalPad.NORMAL, "a", "aa", false);
        Probe.due("an endless one", Probe.type(pad, "a"), 1);
        Probe.due("as a failure", pad.failures() * 10 + pad.waiting(), 10);
        Probe.due("but no command has failed", pad.taken() * 10 + (pad.agrees() ? 1 : 0), 1);
        map(pad, ModalPad.NORMAL, "b", "~b", false);
        Probe.due("200 keys can come", Probe.type(pad, "b"), 1);
        Probe.due("100 of them were taken", pad.taken(), 100);
        Probe.due("agrees", pad.agrees(), true);
        // the keys of the map are gone, what comes from maps with them, and typed ones stay
        pad = Probe.pad("abcdef");
        map(pad, ModalPad.NORMAL, "aZ", "1234567", false);
        map(pad, ModalPad.NORMAL, "b", "bab", false);
        map(pad, ModalPad.NORMAL, "c", "cccccccc", false);
        map(pad, ModalPad.NORMAL, "cl", "", false);
        Probe.type(pad, "2c");
        Probe.due("not within a command", pad.waiting() * 10 + pad.given(), 2);
        Probe.type(pad, "{ESC}c");
        Probe.due("c waits", pad.waiting(), 1);
        Probe.due("too many", Probe.type(pad, "w"), 1);
        Probe.due("w was typed behind it, and is done", pad.column(), 5);
        Probe.due("only that", pad.taken(), 4);
        Probe.due("agrees", pad.agrees(), true);
        // with the next key it begins anew
        pad = Probe.pad("abc");
        map(pad, ModalPad.NORMAL, "b", "~~~~~~~~", true);
        for (int i = 0; i < 30; i++) {
            Probe.due("8 more", Probe.type(pad, "b"), 0);
        }
        Probe.due("taken", pad.taken(), 240);
    }

    private static void limitOfLoops() {
        ModalPad pad = Probe.pad("abc");
        map(pad, ModalPad.NORMAL, "b", "~~b", false);
        Probe.due("a map by which there would be 201", Probe.type(pad, "b"), 1);
        Probe.due("is not gone by", pad.taken(), 66 * 2);
        // ticks do not begin the count anew, a typed key does
        pad = Probe.pad("abc");
        map(pad, ModalPad.NORMAL, "K", "~~~~~~~b", false);
        map(pad, ModalPad.NORMAL, "b", "~b", false);
        map(pad, ModalPad.NORMAL, "bZ", "", false);
        Probe.type(pad, "K");
        Probe.due("the last one waits", pad.waiting() * 10 + pad.taken(), 17);
        Probe.due("too many by ticks", pad.tick(5), 1);
        Probe.due("8 came ahead of them", pad.taken(), 7 + 96);
        Probe.type(pad, "K");
        Probe.due("too many by a key", Probe.type(pad, "0"), 1);
        Probe.due("none came since it was typed", pad.taken(), 7 + 96 + 7 + 100 + 1);
        Probe.due("which is done", pad.column(), 0);
        Probe.due("agrees", pad.agrees(), true);
    }

    private static void failures() {
        ModalPad pad = Probe.pad("abc");
        map(pad, ModalPad.NORMAL, "K", "hhx$", false);
        Probe.due("one failure", Probe.type(pad, "K"), 1);
        Probe.due("the rest is dropped", Probe.text(pad) + pad.taken(), "abc1");
        map(pad, ModalPad.NORMAL, "hq", "x", false);
        Probe.due("typed keys stay", Probe.type(pad, "h$") * 100 + Probe.place(pad), 102);
        Probe.type(pad, "0hh");
        Probe.due("also those that wait", pad.waiting() * 10 + pad.failures(), 13);
        pad.tick(5);
        Probe.due("and are done", pad.failures(), 4);
        // a typed key that stays is looked at by maps, though keys of a FINAL one stood ahead of it
        map(pad, ModalPad.NORMAL, "a", "hh", true);
        map(pad, ModalPad.NORMAL, "ab", "", true);
        map(pad, ModalPad.NORMAL, "q", "$", true);
        Probe.due("it waits", Probe.type(pad, "0a") * 10 + pad.waiting(), 1);
        Probe.due("one failure", Probe.type(pad, "q"), 1);
        Probe.due("the typed key", pad.given() * 10 + pad.column(), 2);
        Probe.due("answers of keys", pad.keys(Probe.packed("QQQQQQQQ")), 8);
        Probe.due("failures", pad.failures(), 13);
        Probe.due("agrees", pad.agrees(), true);
    }

    private static void changing() {
        ModalPad pad = Probe.pad("abcdef");
        Probe.due("one", map(pad, ModalPad.NORMAL, "K", "x", false), 1);
        Probe.due("another mode", map(pad, ModalPad.INSERT, "K", "x", false), 2);
        Probe.due("a longer one", map(pad, ModalPad.NORMAL, "KK", "x", false), 3);
        Probe.due("in place of one", map(pad, ModalPad.NORMAL, "K", "l", true), 3);
        Probe.type(pad, "Kq");
        Probe.due("the new one", pad.column(), 1);
        Probe.due("0 is left out", pad.map(ModalPad.NORMAL, Probe.packed(0, 'K', 0, 0, 'K'), Probe.packed(0, '$'),
            true), 3);
        Probe.type(pad, "{ESC}KK");
        Probe.due("its keys", pad.column(), 5);
        Probe.due("unmap", pad.unmap(ModalPad.NORMAL, Probe.packed(0, 'K', 'K')), 2);
        Probe.type(pad, "0K");
        Probe.due("no longer one", pad.column(), 1);
        for (int i = 0; i < 10; i++) {
            map(pad, ModalPad.SELECTION, "" + i, "x", false);
        }
        ModalPad full = pad;
        Probe.due("13", Probe.thrown(() -> map(full, ModalPad.NORMAL, "a", "x", false)), "IllegalStateException");
        Probe.due("in place of one of 12", map(pad, ModalPad.SELECTION, "3", "y", false), 12);
        Probe.due("unmap again", Probe.thrown(() -> full.unmap(ModalPad.NORMAL, Probe.packed("KK"))),
            "IllegalStateException");
        Probe.due("of another mode", Probe.thrown(() -> full.unmap(ModalPad.NORMAL, '3')), "IllegalStateException");
        Probe.due("all others", full.unmap(ModalPad.SELECTION, '3'), 11);
        map(pad, ModalPad.SELECTION, "9", "d", true);
        Probe.due("one ahead of it", full.unmap(ModalPad.SELECTION, '5'), 10);
        Probe.type(pad, "0v9");
        Probe.due("the last one is still there", Probe.text(pad), "bcdef");
        Probe.feed(pad, "xyz");
        pad.load();
        Probe.type(pad, "K");
        Probe.due("maps stay behind load", pad.column(), 1);
        // what a map is stays with it as another one is taken away
        pad = Probe.pad("abcdef");
        map(pad, ModalPad.SELECTION, "K", "o", false);
        map(pad, ModalPad.NORMAL, "M", "x", false);
        map(pad, ModalPad.NORMAL, "L", "lM", true);
        Probe.due("the first one", pad.unmap(ModalPad.SELECTION, 'K'), 2);
        Probe.due("the last one is FINAL", Probe.type(pad, "LM") * 10 + pad.column(), 11);
        Probe.due("and of NORMAL", Probe.text(pad), "acdef");
        Probe.due("one of four keys", map(pad, ModalPad.NORMAL, "wxyz", "x", false), 3);
        Probe.due("is taken away", pad.unmap(ModalPad.NORMAL, Probe.packed("wxyz")), 2);
        // four keys, and all that are keys
        map(pad, ModalPad.NORMAL, "{ESC}{ENTER}{BACK}{REDO}", "{RECT}{OLDER}{NEWER}~12345", true);
        Probe.type(pad, "{ESC}{ENTER}{BACK}");
        Probe.due("three wait", pad.waiting(), 3);
    }

    private static void wrongInputs() {
        ModalPad pad = new ModalPad();
        String bad = "IllegalArgumentException";
        for (int mode : new int[] {-1, 3, 4, 5, Integer.MIN_VALUE, Integer.MAX_VALUE}) {
            Probe.due("map of " + mode, Probe.thrown(() -> pad.map(mode, 'a', 'b', false)), bad);
            Probe.due("unmap of " + mode, Probe.thrown(() -> pad.unmap(mode, 'a')), bad);
        }
        for (int code : new int[] {1, 7, 10, 11, 12, 14, 16, 26, 28, 31, 127, 128, 255}) {
            long codes = Probe.packed('a', code);
            Probe.due("map from " + code, Probe.thrown(() -> pad.map(0, codes, 'b', false)), bad);
            Probe.due("map to " + code, Probe.thrown(() -> pad.map(0, 'a', codes, false)), bad);
            Probe.due("map to " + code + " last", Probe.thrown(() -> pad.map(0, 'a', (long) code << 56, false)), bad);
            Probe.due("unmap from " + code, Probe.thrown(() -> pad.unmap(0, codes)), bad);
        }
        for (long from : new long[] {0, Probe.packed("abcde"), Probe.packed("abcdefgh")}) {
            Probe.due("map from " + from, Probe.thrown(() -> pad.map(0, from, 'b', false)), bad);
            Probe.due("unmap from " + from, Probe.thrown(() -> pad.unmap(0, from)), bad);
        }
        Probe.due("no map was made", map(pad, ModalPad.NORMAL, "abcd", "abcdefgh", true), 1);
        for (int i = 1; i < 12; i++) {
            map(pad, ModalPad.NORMAL, "" + (char) ('A' + i), "", true);
        }
        Probe.due("wrong ones and too many", Probe.thrown(() -> pad.map(3, 'a', 'b', false)), bad);
        Probe.due("a wrong one that is not there", Probe.thrown(() -> pad.unmap(0, 7)), bad);
    }
}
