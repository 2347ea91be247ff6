/** Selections (promises 4, 12 to 15). */
public final class SelectionTest {
    public static void main(String[] args) {
        modes();
        bySigns();
        byLines();
        byRectangles();
        objects();
        failing();
        Probe.end();
    }

    private static void modes() {
        ModalPad pad = Probe.pad("abc\nabcdef\nab");
        int[] wants = {ModalPad.SIGNS, ModalPad.LINES, ModalPad.RECTS, ModalPad.SIGNS, ModalPad.NORMAL};
        String[] keys = {"v", "V", "{RECT}", "v", "v"};
        for (int i = 0; i < keys.length; i++) {
            Probe.type(pad, keys[i]);
            Probe.due("mode behind " + keys[i], pad.mode(), wants[i]);
        }
        Probe.type(pad, "Vj{ESC}");
        Probe.due("ESC ends it", pad.mode(), ModalPad.NORMAL);
        Probe.due("the cursor stays", Probe.place(pad), 100);
        Probe.type(pad, "VV");
        Probe.due("V ends LINES", pad.mode(), ModalPad.NORMAL);
        Probe.type(pad, "{RECT}{RECT}");
        Probe.due("RECT ends RECTS", pad.mode(), ModalPad.NORMAL);
        Probe.type(pad, "v2");
        Probe.due("given", pad.given(), 1);
        Probe.type(pad, "{ESC}");
        Probe.due("ESC drops what is given", pad.mode() * 10 + pad.given(), 10 * ModalPad.SIGNS);
        Probe.type(pad, "{ESC}");
        Probe.due("and ends it then", pad.mode(), ModalPad.NORMAL);
        Probe.due("no failure", pad.failures(), 0);
        Probe.due("agrees", pad.agrees(), true);
    }

    private static void bySigns() {
        Probe.after("abcdef", "lv2ld", "aef", 1);
        Probe.after("abcdef", "3lvhhx", "aef", 1);
        Probe.after("abcdef", "vd", "bcdef", 0);
        Probe.after("abc\ndef", "lvjd", "af", 1);
        Probe.after("abc\n\nd", "lvjd", "a\nd", 0);
        Probe.after("\n\na", "vjd", "\na", 0);
        Probe.after("abc", "$vl", "abc", 2, 1);
        Probe.after("ab cd\nef", "vww", "ab cd\nef", 100);
        Probe.after("ab cd", "vwwd", "", 0);
        Probe.after("abcdef", "lvlcx{ESC}", "axdef", 1);
        Probe.after("abcdef", "lvlsx{ESC}", "axdef", 1);
        Probe.after("abcdef", "lvly", "abcdef", 1);
        Probe.after("abcdef", "lvlg~", "aBCdef", 1);
        Probe.after("abcdef", "lvl~", "aBCdef", 1);
        Probe.after("ab\ncd\nef", "lvj>", "  ab\n  cd\nef", 2);
        Probe.after("  ab\n cd\nef", "lvj2<", "ab\ncd\nef", 0);
        Probe.after("abcdef", "lvllrx", "axxxef", 1);
        Probe.after("ab\ncd", "lvjrx", "ax\nxx", 1);
        Probe.after("ab\ncd\nef", "vjJ", "ab cd\nef", 2);
        Probe.after("ab\ncd\nef", "vJ", "ab cd\nef", 2);
        Probe.after("ab\ncd\nef", "vGJ", "ab cd ef", 5);
        Probe.due("J ends it", Probe.after("ab\ncd", "vJ", "ab cd", 2).mode(), ModalPad.NORMAL);
        Probe.due("r ends it", Probe.after("ab\ncd", "vlrx", "xx\ncd", 0).mode(), ModalPad.NORMAL);
        Probe.due("what fails leaves it", Probe.after("ab", "vJ", "ab", 0, 1).mode(), ModalPad.SIGNS);
        Probe.after("abcdef", "2lvlohd", "aef", 1);
        Probe.after("abcdef", "2lvlold", "abcef", 3);
        Probe.after("abc def", "v/d{ENTER}dn", "ef", 0, 1);
        Probe.after("axbxc", "vfxd;", "bxc", 1);
        ModalPad pad = Probe.after("abc\nde", "lvj\"ad", "a", 0);
        Probe.due("register", Probe.register(pad, 'a'), "1:bc\nde");
        Probe.due("only that", Probe.register(pad, '1'), "0:");
        Probe.after("x".repeat(40) + "\nabc" + "y".repeat(28), "30lvj0d", "x".repeat(30) + "bc" + "y".repeat(28), 30);
        Probe.after("x".repeat(40) + "\nabc" + "y".repeat(29), "30lvj0d", "x".repeat(40) + "\nabc" + "y".repeat(29), 100, 1);
        Probe.after("x".repeat(60) + "\n" + "y".repeat(60), "$vj0d", "x".repeat(60) + "\n" + "y".repeat(60), 100, 1);
    }

    private static void byLines() {
        Probe.after("a\n b\nc", "Vjd", "c", 0);
        Probe.after("a\n b\nc", "GVkd", "a", 0);
        Probe.after("a\n b\nc", "jVcx{ESC}", "a\nx\nc", 100);
        Probe.after("a\nbcd\nef", "j$Vky", "a\nbcd\nef", 0);
        Probe.after("a\nbcd\nef", "j$Vjy", "a\nbcd\nef", 101);
        Probe.after("a\nb", "lVj>", "  a\n  b", 2, 1);
        Probe.after("ab\ncd", "lVjg~", "AB\nCD", 0);
        Probe.after("ab\n\ncd", "lVGrx", "xx\n\nxx", 0);
        Probe.after("ab\ncd\nef", "lVjJ", "ab cd\nef", 2);
        Probe.after("ab\ncd\nef", "GVJ", "ab\ncd\nef", 200, 1);
        Probe.after("ab\ncd", "V:", "ab\ncd", 0, 1);
        ModalPad pad = Probe.after("ab\ncd\nef", "jVyGp", "ab\ncd\nef\ncd", 300);
        Probe.due("register", Probe.register(pad, '0'), "2:cd\n");
        pad = Probe.after("ab\ncd\nef", "Vjzf", "ab\ncd\nef", 0);
        Probe.due("folds", pad.folds() * 1000 + pad.foldOf(1), 1001);
        Probe.due("mode", pad.mode(), ModalPad.NORMAL);
    }

    private static void byRectangles() {
        String text = "abcd\nef\n\nghijk";
        Probe.after(text, "l{RECT}3jld", "ad\ne\n\ngjk", 1);
        Probe.after(text, "3j3l{RECT}kkkhd", "ab\nef\n\nghk", 1);
        ModalPad pad = Probe.after(text, "l{RECT}3jly", text, 1);
        Probe.due("rows", Probe.register(pad, '0'), "3:bc\nf\n\nhi\n");
        pad = Probe.after(text, "3j$h{RECT}ggly", text, 1);
        Probe.due("other corners", Probe.register(pad, '"'), "3:bcd\nf\n\nhij\n");
        Probe.after(text, "l{RECT}3jl~", "aBCd\neF\n\ngHIjk", 1);
        Probe.after(text, "l{RECT}3jlg~", "aBCd\neF\n\ngHIjk", 1);
        Probe.after(text, "l{RECT}3jlr-", "a--d\ne-\n\ng--jk", 1);
        Probe.after(text, "l{RECT}j>", "  abcd\n  ef\n\nghijk", 2);
        Probe.after(text, "l{RECT}jzf", text, 1);
        Probe.after(text, "l{RECT}jJ", "abcd ef\n\nghijk", 4);
        Probe.after(text, "2l{RECT}jod", "ad\ne\n\nghijk", 1);
        Probe.after(text, "l{RECT}jc", text, 101, 1);
        Probe.after(text, "l{RECT}js", text, 101, 1);
        Probe.after(text, "2j{RECT}d", text, 200, 1);
        Probe.after(text, "2j{RECT}y", text, 200, 1);
        Probe.after(text, "2j{RECT}~", text, 200, 1);
        Probe.after(text, "2j{RECT}g~", text, 200, 1);
        Probe.after(text, "2j{RECT}rx", text, 200, 1);
        Probe.after(text, "$3h{RECT}jjd", "bcd\nf\n\nghijk", 0);
    }

    private static void objects() {
        ModalPad pad = Probe.after("foo bar baz", "wviw", "foo bar baz", 6);
        Probe.type(pad, "d");
        Probe.due("iw", Probe.text(pad), "foo  baz");
        Probe.after("foo bar baz", "wvawd", "foo baz", 4);
        Probe.after("a b", "viw", "a b", 0);
        Probe.after("a b", "viwd", " b", 0);
        Probe.after("foo bar baz", "Vv3iwd", " baz", 0);
        pad = Probe.after("foo bar", "Viw", "foo bar", 2);
        Probe.due("iw selects signs", pad.mode(), ModalPad.SIGNS);
        pad = Probe.after("a\n  b\n  cc\n\nd", "j$vip", "a\n  b\n  cc\n\nd", 200);
        Probe.due("ip selects lines", pad.mode(), ModalPad.LINES);
        Probe.after("a\n  b\n\nd", "j$vipd", "\nd", 0);
        Probe.after("a\n  b\n\nd", "j$vapd", "d", 0);
        Probe.after("f(a, b)", "fav2i(", "f(a, b)", 2, 1);
        Probe.after("f(a, b)", "favi(d", "f()", 2);
        Probe.after("f(a, b)", "fava(d", "f", 0);
        Probe.after("x \"ab\" y", "vi\"rz", "x \"zz\" y", 3);
        // what ends ahead of column 0 is in the last column of the line ahead
        Probe.after("f(\n ab\n)", "jvi(", "f(\n ab\n)", 102);
        Probe.after("f(\n ab\n)", "jvi(d", "f(\n)", 1);
        Probe.after("f(\n\n)", "jvi(", "f(\n\n)", 100);
        Probe.after("f(\n)", "vi(", "f(\n)", 0, 1);
        Probe.after("f(\n)", "lvi(", "f(\n)", 1);
        Probe.after("f()", "lvi(", "f()", 1, 1);
        Probe.after("", "viw", "", 0, 1);
    }

    private static void failing() {
        String[] keys = {"p", "P", "u", "{REDO}", ".", "@", "q", "m", "D", "C", "S", "Y", "X", "A", "I", "O",
            "gm", "g-", "zo", "zc", "{OLDER}", "{NEWER}", "Q", "ix", "{ENTER}", "{BACK}", "&", "zd", ":", "gx"};
        for (int i = 0; i < keys.length; i++) {
            ModalPad pad = Probe.pad("abc\nd");
            Probe.type(pad, "lvl");
            String first = keys[i];
            Probe.due("failures of " + first + " in a selection", Probe.type(pad, first) > 0, true);
            Probe.due("it stays", pad.mode(), ModalPad.SIGNS);
            Probe.type(pad, "d");
            Probe.due("and is the same", Probe.text(pad), "a\nd");
        }
        Probe.after("\nab", "vd", "\nab", 0, 1);
        Probe.after("\nab", "vy", "\nab", 0, 1);
        Probe.after("\nab", "vc", "\nab", 0, 1);
        Probe.after("\nab", "v~", "\nab", 0, 1);
        Probe.after("\nab", "vg~", "\nab", 0, 1);
        Probe.after("\nab", "vrx", "\nab", 0, 1);
        Probe.after("\n\nab", "Vjrx", "\n\nab", 100, 1);
        Probe.after("\nab", "v>", "\nab", 0);
        ModalPad folded = Probe.after("ab\n\nc", "vjzf", "ab\n\nc", 0);
        Probe.due("the lines of a selection by signs", folded.foldOf(1), 1);
        Probe.after("ab\ncd", "vzf", "ab\ncd", 0, 1);
        Probe.after("ab\ncd", "v99l99jd", "\ncd", 0, 1);
        Probe.after("\nab", "Vd", "ab", 0);
    }
}
