/** Several cursors (promises 4, 17, 18). */
public final class CursorsTest {
    public static void main(String[] args) {
        spreading();
        moving();
        changing();
        inserting();
        becomingOne();
        movingWithLines();
        mainLine();
        failing();
        leaving();
        counting();
        inFolds();
        wrongInputs();
        Probe.end();
    }

    private static ModalPad shows(String text, String keys, String wantText, int wantPlace, String wantCursors) {
        ModalPad pad = Probe.after(text, keys, wantText, wantPlace);
        Probe.due("cursors behind " + keys, Probe.cursors(pad), wantCursors);
        return pad;
    }

    private static void spreading() {
        shows("foo(foo)\nbar foo", "/foo{ENTER}gm", "foo(foo)\nbar foo", 4, "0 104");
        shows("foo(foo)\nbar foo", "/foo{ENTER}lgm", "foo(foo)\nbar foo", 0, "4 104");
        shows("aaa", "/aa{ENTER}gm", "aaa", 1, "0");
        shows("ab", "/b{ENTER}gm", "ab", 1, "");
        Probe.after("ab", "gm", "ab", 0, 1);
        Probe.after("ab", "/b{ENTER}xgm", "a", 0, 1);
        Probe.after("ab", "/q{ENTER}gm", "ab", 0, 2);
        // 10 at most
        shows("a".repeat(15), "/a{ENTER}$gm", "a".repeat(15), 14, "0 1 2 3 4 5 6 7 8");
        shows("b" + "a".repeat(15), "/a{ENTER}0gm", "b" + "a".repeat(15), 1, "2 3 4 5 6 7 8 9 10");
        // once more, with others
        shows("ab ab", "/a{ENTER}gml/a{ENTER}lgm", "ab ab", 0, "3");
        shows("ab ab", "/a{ENTER}gm/b{ENTER}gm", "ab ab", 4, "1");
    }

    private static void moving() {
        shows("a1234 ab\nxab", "/a{ENTER}gml", "a1234 ab\nxab", 7, "1 102");
        shows("abcdef\nab\nabcdef", "/a{ENTER}0gm$", "abcdef\nab\nabcdef", 101, "5 205");
        // the wanted column of a further one is its column
        String text = "qbcdef\nab\nqbcdef\nab\nabcdef";
        shows(text, "/q{ENTER}gg0gm$jj", text, 205, "401");
        shows("a\n\nb a\n\nc", "/a{ENTER}gm}", "a\n\nb a\n\nc", 300, "100");
        ModalPad pad = shows("a\n\nb a\n\nc", "/a{ENTER}gm}k", "a\n\nb a\n\nc", 200, "0");
        Probe.due("the main one alone keeps places of jumps", pad.jumps(), 2);
        shows("a x a x", "/a{ENTER}gmfx", "a x a x", 6, "2");
        shows("a x a x", "/a{ENTER}gmfx;", "a x a x", 6, "2", 1);
    }

    private static void shows(String text, String keys, String wantText, int wantPlace, String wantCursors, int failed) {
        ModalPad pad = Probe.after(text, keys, wantText, wantPlace, failed);
        Probe.due("cursors behind " + keys, Probe.cursors(pad), wantCursors);
    }

    private static void changing() {
        shows("foo(foo)\nbar foo\nfo foo", "/foo{ENTER}gmx", "oo(oo)\nbar oo\nfo oo", 4, "0 104 203");
        shows("ab\nab\nab", "/a{ENTER}0gmx", "b\nb\nb", 100, "0 200");
        shows("ab ab\nab", "/a{ENTER}gmdw", "\n", 0, "100");
        shows("a1\nb\na2\nb", "/a{ENTER}gg0gmdd", "b\nb", 0, "100");
        shows("a1\nb\na2\nb", "/a{ENTER}gg0gm>>", "  a1\nb\n  a2\nb", 2, "202");
        shows("a1\nb\na2\nb", "/a{ENTER}gg0gmg~~", "A1\nb\nA2\nb", 0, "200");
        shows("ab ab", "/a{ENTER}0gmrx", "xb xb", 0, "3");
        shows("ab ab", "/a{ENTER}0gm2~", "AB AB", 2, "4");
        shows("a\nb\na\nb", "/a{ENTER}gg0gmJ", "a b\na b", 1, "101");
        shows("a1 a2", "/a{ENTER}0gmylP", "aa1a a2", 0, "3");
        shows("abc abd", "/a{ENTER}0gmD", "", 0, "");
        ModalPad pad = shows("xa ya", "/a{ENTER}gmX", "a a", 0, "2");
        Probe.due("one change", pad.states(), 2);
        pad = shows("a1\na2\na3", "/a{ENTER}gg0gm$\"Byl", "a1\na2\na3", 1, "101 201");
        Probe.due("the main one, then from the last one", Probe.register(pad, 'b'), "1:132");
        Probe.due("unnamed", Probe.register(pad, '"'), "1:2");
        pad = shows("a1\na2\na3", "/a{ENTER}gg0gmj", "a1\na2\na3", 100, "200");
        pad = shows("a\nb\na\nb\na", "/a{ENTER}gg0gmzfj", "a\nb\na\nb\na", 0, "200 400");
        Probe.due("folds", pad.folds() * 10000 + pad.foldOf(3), 20203);
    }

    private static void inserting() {
        shows("foo(foo)\nbar foo\nfo foo", "/foo{ENTER}gmxiZ{ENTER}y{ESC}",
            "Z\nyoo(oZ\nyo)\nbar Z\nyoo\nfo Z\nyoo", 200, "100 400 600");
        ModalPad pad = Probe.pad("a1 a2");
        Probe.type(pad, "/a{ENTER}0gmcwx");
        Probe.due("the main one first", Probe.text(pad), "xa2");
        Probe.due("the others still wait", Probe.cursors(pad), "3");
        Probe.type(pad, "y{ESC}");
        Probe.due("then the others", Probe.text(pad), "xyaxy");
        shows("a\na\na", "/a{ENTER}gg0gm2Ax{BACK}y{ESC}", "ayy\nayy\nayy", 2, "102 202");
        shows("a\na", "/a{ENTER}gg0gmIx{ESC}", "xa\nxa", 0, "100");
        shows("ab\nab", "/a{ENTER}gg0gmax{ESC}", "axb\naxb", 1, "101");
        shows("ab\nab", "/a{ENTER}gg0gmCx{ESC}", "x\nx", 0, "100");
        shows("ab\nab", "/a{ENTER}gg0gmsx{ESC}", "xb\nxb", 0, "100");
        pad = shows("ab\nab", "/a{ENTER}gg0gmccx{ESC}", "x\nx", 0, "100");
        Probe.type(pad, "u");
        Probe.due("one change", Probe.text(pad), "ab\nab");
        // the last change is that of the main one
        Probe.after("ab\nab", "/a{ENTER}gg0gmsx{ESC}0{ESC}G$.", "xb\nxx", 101);
    }

    private static void becomingOne() {
        shows("a1a2", "/a{ENTER}gm0", "a1a2", 0, "");
        shows("a1a2 a", "/a{ENTER}0gm$", "a1a2 a", 5, "");
        shows("a\na\na", "/a{ENTER}gmG", "a\na\na", 200, "");
        shows("abab", "/a{ENTER}0gml", "abab", 1, "3");
        shows("ab\na", "ma/a{ENTER}gg0gm'a", "ab\na", 0, "");
    }

    /** Further ones in lines that are taken out, or put in, or that change their order. */
    private static void movingWithLines() {
        ModalPad pad = Probe.pad("a\na\nb\na");
        Probe.type(pad, "/a{ENTER}gg0gmcj");
        Probe.due("one is gone while INSERT goes on", Probe.cursors(pad), "200");
        Probe.type(pad, "{ESC}");
        Probe.due("the other one fails", Probe.text(pad) + Probe.cursors(pad), "\nb\na200");
        shows("x\na\na\nb", "/a{ENTER}ngmdk", "x\nb", 100, "");
        shows("ab,cab", "/ab{ENTER}0gmdf,", "cab", 0, "2");
        shows("x\na1\na2", "yy/a{ENTER}gmp", "x\na1\nx\na2\nx", 200, "400");
        shows("((()))", "/({ENTER}0gm%", "((()))", 5, "3 4");
    }

    private static void mainLine() {
        // another one takes out lines ahead of the main one
        shows("q\na\nb q\nc\nd", "/q{ENTER}gmd2j", "q\na", 100, "0");
        shows("q a\nb\nc q\nd e f\ng", "/q{ENTER}gm2dd", "g", 0, "");
        // another one takes out the line of the main one
        shows("a\nq\n  b\nq\ncdef", "/q{ENTER}gmdk", "cdef", 2, "0");
        shows("x\na\nq\n bcd\nq", "/q{ENTER}gmdk", "x", 0, "");
        shows("q\nx\nq y\nabc", "/q{ENTER}gmdj", "", 0, "");
        shows("q1\nx\ny\na q\nb\nc", "/q{ENTER}gmdd", "x\ny\nb\nc", 200, "0");
        // its wanted column stays
        shows("a\nq\n  b\nq\nc\ndefg", "/q{ENTER}gmdk", "c\ndefg", 0, "");
        shows("a\nq\n  b\nq\nc\ndefg", "/q{ENTER}gmdkj", "c\ndefg", 102, "");
    }

    private static void failing() {
        // those that fail stay, and that is no failure
        shows("xa a\na", "/a{ENTER}0gmh", "xa a\na", 0, "2 100");
        shows("a\nxa", "/a{ENTER}gmX", "a\na", 100, "0");
        // but if it fails for the main one, it is not done for the others
        ModalPad pad = Probe.after("a\nxa", "/a{ENTER}gg0gmX", "a\nxa", 0, 1);
        Probe.due("they are still there", Probe.cursors(pad), "101");
        pad = Probe.after("a\nxa", "/a{ENTER}gg0gmuZ", "a\nxa", 0, 2);
        Probe.due("nothing changes by a failure", Probe.cursors(pad), "101");
    }

    private static void leaving() {
        String[] alone = {"{ESC}", "u", "ma", "v", "V", "{RECT}", ":", "qa", "S{ESC}", "Y", "o{ESC}", "O{ESC}",
            "@r", ".", "{OLDER}", "g-", "zo"};
        for (String keys : alone) {
            ModalPad pad = Probe.pad("ab\nab\nab");
            Probe.type(pad, "ylP\"rylggzfjzozc/a{ENTER}Ggggm");
            Probe.due("cursors", pad.cursors(), 3);
            Probe.due("failures of " + keys, Probe.type(pad, keys), 0);
            Probe.due("cursors behind " + keys, pad.cursors(), 0);
        }
        String[] all = {"l", "d{ESC}", "3{ESC}", "\"a{ESC}", "ix{ESC}", "p", "yl", "{BACK}", "Z"};
        for (String keys : all) {
            ModalPad pad = Probe.pad("ab\nab\nab");
            Probe.type(pad, "yl/a{ENTER}Ggggm" + keys);
            Probe.due("cursors behind " + keys, pad.cursors(), 2);
        }
        // cursors that are made by what is played stay
        ModalPad pad = Probe.pad("ab\nab\nab");
        Probe.type(pad, "/a{ENTER}qagmq@a");
        Probe.due("by @", pad.cursors(), 2);
        Probe.type(pad, ":ngm{ENTER}");
        Probe.due("by n", pad.cursors(), 2);
        Probe.type(pad, "x");
        Probe.due("they are there", Probe.text(pad), "b\nb\nb");
        Probe.due("agrees", pad.agrees(), true);
    }

    private static void counting() {
        // 3 keys at 3 cursors each time, 8 ahead of them, and 8 behind them
        ModalPad pad = Probe.pad("a    \na    \na    ");
        Probe.type(pad, "/a{ENTER}gg0gm");
        for (int done = 8; done + 9 < 800; done += 9) {
            Probe.type(pad, "1r" + (char) ('a' + done % 20));
        }
        Probe.type(pad, "2{ESC}2{ESC}22{ESC}r");
        Probe.due("799 keys", pad.given(), 1);
        Probe.type(pad, "!");
        Probe.due("the last one is done at all", pad.sign(2, 0), '!');
        Probe.type(pad, "x");
        Probe.due("the next one is not", pad.length(0), 5);
        Probe.due("agrees", pad.agrees(), true);
        // an ESC that n gives is none: 3 keys, and 53 times 7 that are typed, 4 that are played, and 4 at the others
        pad = Probe.pad("a\na\na");
        Probe.type(pad, "/a{ENTER}");
        for (int i = 0; i < 53; i++) {
            Probe.type(pad, ":ngmix{ENTER}");
        }
        Probe.due("all were done", pad.length(2), 54);
        Probe.type(pad, "{ESC}hhh");
        Probe.due("and two keys more", pad.column(), 51);
        Probe.due("agrees", pad.agrees(), true);
        // an ESC that is typed is one, at each cursor: 6 keys, 99 times 8, and 2 of l
        pad = Probe.pad("a   a");
        Probe.type(pad, "/a{ENTER}0gm");
        for (int i = 0; i < 99; i++) {
            Probe.type(pad, "ax{BACK}{ESC}");
        }
        Probe.due("they stay", Probe.place(pad) + Probe.cursors(pad), "04");
        Probe.type(pad, "ll");
        Probe.due("the first l is the last key", Probe.place(pad) * 1000 + pad.taken(), 1000 + 6 + 99 * 4 + 2);
        Probe.due("agrees", pad.agrees(), true);
        // they are no played keys by their number
        pad = Probe.pad("a\na\na\na\na\na\na\na\na\na");
        Probe.type(pad, "/a{ENTER}qagmA012345678{ESC}q");
        Probe.due("q leaves one cursor", pad.cursors(), 0);
        Probe.due("no failure", Probe.type(pad, "gg0@a"), 0);
        Probe.due("all of them", pad.length(9), 19);
        Probe.due("agrees", pad.agrees(), true);
    }

    private static void inFolds() {
        ModalPad pad = Probe.pad("xa\nb\nca\nd");
        Probe.type(pad, "jzfjgg/a{ENTER}gg0gm");
        Probe.due("a further one in a closed fold", Probe.place(pad) + " " + Probe.cursors(pad), "1 201");
        Probe.type(pad, "h");
        Probe.due("is put to its first line by a command", Probe.place(pad) + " " + Probe.cursors(pad), "0 100");
        Probe.type(pad, "{ESC}/a{ENTER}gg0gmX");
        Probe.due("X", Probe.text(pad) + Probe.cursors(pad), "a\nb\na\nd100");
        Probe.type(pad, "ugg0gm");
        Probe.type(pad, "yiw");
        Probe.due("also by y", Probe.cursors(pad), "100");
        Probe.type(pad, "u");
        pad = Probe.pad("xa\nb\na\nd");
        Probe.type(pad, "jzfjgg/a{ENTER}gg0gmh");
        Probe.due("but not by one that fails there", Probe.place(pad) + " " + Probe.cursors(pad), "0 200");
        pad = Probe.pad("xa\nb\na\nd");
        Probe.type(pad, "jzfjgg/a{ENTER}gg0gmix{ESC}");
        Probe.due("INSERT opens it", Probe.text(pad) + pad.foldOf(1) + Probe.cursors(pad), "xxa\nb\nxa\nd-1200");
        // one that closes over the main one
        pad = Probe.pad("z\nqab\n qa\nc\nd");
        Probe.type(pad, "/q{ENTER}ngmzfj");
        Probe.due("folds", pad.folds() * 1000 + pad.foldOf(1), 2103);
        Probe.due("the main one is on its first line", Probe.place(pad) + " " + Probe.cursors(pad), "101 100");
        Probe.due("agrees", pad.agrees(), true);
    }

    private static void wrongInputs() {
        ModalPad pad = Probe.pad("a a a");
        Probe.due("none", Probe.thrown(() -> pad.cursorAt(0)), "IndexOutOfBoundsException");
        Probe.type(pad, "/a{ENTER}0gm");
        Probe.due("in their order", Probe.cursors(pad), "2 4");
        for (int place : new int[] {-1, 2, 9, Integer.MIN_VALUE, Integer.MAX_VALUE}) {
            Probe.due("cursorAt " + place, Probe.thrown(() -> pad.cursorAt(place)), "IndexOutOfBoundsException");
        }
    }
}
