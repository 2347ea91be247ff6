/** What other tests look at in the first line, in lines further down, and with columns that are not 0 (promises 4, 8 to 31). */
public final class FurtherLinesTest {
    private static final String AHEAD = "q w\n\n  e (r\n";

    public static void main(String[] args) {
        motions();
        operators();
        objects();
        linesThatAreNamed();
        jumps();
        marks();
        registers();
        cursors();
        Probe.end();
    }

    /** Keys that only move, from the beginning of the fourth line on. */
    private static void goes(String line, String keys, int wantColumn) {
        Probe.after(AHEAD + line, "4G0" + keys, AHEAD + line, 300 + wantColumn);
    }

    private static void does(String line, String keys, String wantLine, int wantColumn) {
        Probe.after(AHEAD + line, "4G0" + keys, AHEAD + wantLine, 300 + wantColumn);
    }

    private static void motions() {
        goes("abcdef", "3l", 3);
        goes("abcdef", "$2h", 3);
        goes("  ab cd", "$^", 2);
        goes("  ab cd", "$0", 0);
        goes("  ab cd", "2l$", 6);
        goes("  ab cd", "w", 2);
        goes("  ab cd", "2w", 5);
        goes("  ab cd", "$b", 5);
        goes("  ab cd", "$2b", 2);
        goes("  ab cd", "e", 3);
        goes("  ab cd", "2e", 6);
        goes("axbxcx", "fx", 1);
        goes("axbxcx", "2tx", 2);
        goes("axbxcx", "$Fx", 3);
        goes("axbxcx", "$2Tx", 2);
        goes("axbxcx", "fx;", 3);
        goes("axbxcx", "3fx,", 3);
        goes("x(a)y", "%", 3);
        goes("x(a)y", "%%", 1);
        goes("x[a]y", "%", 3);
        goes("x{a}y", "%", 3);
        goes("x{a}y", "%%", 1);
        goes("x{a[b(c)d]e}y", "%", 11);
        goes("x ab ab", "/ab{ENTER}", 2);
        goes("x ab ab", "2/ab{ENTER}", 5);
        goes("x ab ab", "/ab{ENTER}n", 5);
        goes("x ab ab", "/ab{ENTER}nN", 2);
        goes("x ab", "/ab{ENTER}", 2);
        goes("x ab", "/ab{ENTER}n", 2);
        goes("x ab", "/ab{ENTER}N", 2);
        goes("abcdef", "2lma$`a", 2);
        goes("  abcd", "$ma0'a", 2);
        goes("  abcd", "ggG", 2);
        goes("  abcd", "gg4G", 2);
        goes("  abcd", "gg4gg", 2);
        goes("abcd", "}", 3);
        goes("abcd\n\n\nx", "$jjj{k{j", 0, 200);
        goes("abcd\nab\nabcd", "2l2jkk", 2);
    }

    private static void goes(String line, String keys, int ignored, int wantPlace) {
        Probe.after(AHEAD + line, "4G0" + keys, AHEAD + line, wantPlace);
    }

    private static void operators() {
        does("abcdef", "2ld2l", "abef", 2);
        does("abcdef", "$d2h", "abcf", 3);
        does("  abcd", "4ld^", "  cd", 2);
        does("abcdef", "2ld0", "cdef", 0);
        does("abcdef", "2lD", "ab", 1);
        does("abcdef\nx", "2ld2$", "ab", 1);
        does("ab cd ef", "wdw", "ab ef", 3);
        does("ab cd ef", "wd2w", "ab ", 2);
        does("ab cd\nef", "wdw", "ab \nef", 2);
        does("ab cd ef", "$db", "ab cd f", 6);
        does("ab cd ef", "wde", "ab  ef", 3);
        does("axbxcx", "ldfx", "acx", 1);
        does("axbxcx", "ld2tx", "ax", 1);
        does("axbxcx", "$dFx", "axbx", 3);
        does("axbxcx", "$d2Tx", "axx", 2);
        does("x(a)y", "d%", "y", 0);
        does("x(a)y", "3ld%", "xy", 1);
        does("x{a}y", "3ld%", "xy", 1);
        does("x ab ab", "d2/ab{ENTER}", "ab", 0);
        does("abc\nde" + "x".repeat(58), "ld/exx{ENTER}", "ae" + "x".repeat(58), 1);
        does("abcdef", "2lma$d`a", "abf", 2);
        does("abcdef", "2lmx0y`xP", "ababcdef", 1);
        does("a\nb\nc\nd", "jmajd'a", "a\nd", 100);
        does("a\nb\nc", "jdd", "a\nc", 100);
        does("a\nb\nc", "jyyP", "a\nb\nb\nc", 100);
        does("a\nb\nc", "jyyp", "a\nb\nb\nc", 200);
        does("a\n  b\nc", "J", "a b\nc", 1);
        does("a\n  b\nc", "3J", "a b c", 3);
        does("abc", "l2rx", "axx", 2);
        does("abcdef", "l2rx", "axxdef", 2);
        does("abcdef", "l2~", "aBCdef", 3);
        does("abcdef", "lvlrx", "axxdef", 1);
        does("abcd\nefgh", "l{RECT}jlrx", "axxd\nexxh", 1);
        does("abcd\nefgh", "l{RECT}jld", "ad\neh", 1);
        does("abcd\nefgh", "jl{RECT}kld", "ad\neh", 1);
        does("abcdef", "3l>iw", "  abcdef", 2);
        does("ab", ">iw", "  ab", 2);
        does("f(\n)", "l>i(", "  f(\n)", 2);
        does("f(\nab\n)", "j>i(", "  f(\n  ab\n)", 2);
        does("abc", "l~", "aBc", 2);
        does("abc", "lg~$", "aBC", 1);
        does("abc\nd", ">j", "  abc\n  d", 2);
        does("    abc\n d", "<j", "  abc\nd", 2);
        does("abc\nd", "lylp", "abbc\nd", 2);
        does("abc\nd", "lvjdP", "bc\nda", 0);
        does("abc\nde", "l{RECT}jd$p", "acb\nd e", 2);
        does("abc", "lix{ENTER}y{ESC}", "ax\nybc", 100);
        does("abc", "l2ax{ENTER}y{ESC}", "abx\nyx\nyc", 200);
        does("abc", "lclxy{ESC}", "axyc", 2);
        does("a\nb\nc\nd", "jdk", "c\nd", 0);
        // the second count counts, too, also if it is 1
        Probe.after("a\nb\nc", "jd1G", "c", 0);
        Probe.after("a\n" + "b".repeat(59), "J", "a\n" + "b".repeat(59), 0, 1);
        Probe.after("a".repeat(40), ":s/aa/aaa/g{ENTER}", "a".repeat(60), 0);
        Probe.after("a\n/d", ":g//d/d{ENTER}", "a\n/d", 0, 1);
        // what n does without a change is no last change
        Probe.after("abc", "x:nyl{ENTER}.", "c", 0);
        Probe.after("a\nb\nc", "jd1gg", "c", 0);
        Probe.after("a\nb\nc\nd\ne", "2Gd3G1.", "e", 0);
        Probe.after("a\nb\nc\nd\ne", "2Gd3G99.", "a", 0);
    }

    private static void objects() {
        does("ab cd ef", "wdiw", "ab  ef", 3);
        does("ab cd ef", "wdaw", "ab ef", 3);
        does("ab cd ef", "$daw", "ab cd", 4);
        does("x \"ab\" y", "di\"", "x \"\" y", 3);
        does("x \"ab\" y", "3lda\"", "x  y", 2);
        does("x(ab)y", "2ldi(", "x()y", 2);
        does("x[ab]y", "2lda[", "xy", 1);
        does("x{ab}y", "4ldi{", "x{}y", 2);
        does("x{\nab\n}y", "jda{", "xy", 1);
        does("x()", "lci(ab{ESC}", "x(ab)", 3);
        does("a\nb\n\nc", "jdip", "\nc", 0, "q w\n\n");
        Probe.after("a\n\nb\nc\n\nd", "3Gdip", "a\n\n\nd", 200);
        Probe.after("a\n\nb\nc\n\nd", "4Gdap", "a\n\nd", 200);
        Probe.after("a\n\nb cd ef", "G$bviw", "a\n\nb cd ef", 206);
        Probe.after("a\n\nb (cd) ef", "Gfcvi(", "a\n\nb (cd) ef", 204);
        Probe.after("a\n\nb (cd) ef", "Gfcva(", "a\n\nb (cd) ef", 205);
    }

    private static void does(String line, String keys, String wantLine, int wantColumn, String wantAhead) {
        Probe.after(AHEAD + line, "4G0" + keys, wantAhead + wantLine, 200 + wantColumn);
    }

    /** Lines that n and g go to, when there was another state ahead, or a text without lines. */
    private static void linesThatAreNamed() {
        Probe.after("a\nb\nc", "ddu:%nA!{ENTER}", "a!\nb!\nc!", 201);
        Probe.after("a\nb\nc", "2Gdduddu:g/b/nA!{ENTER}", "a\nb!\nc", 101);
        Probe.after("a\nb\nc", "ddu{REDO}uG:%nA!{ENTER}", "a!\nb!\nc!", 201);
        Probe.after("a\nb\nc", "yyPjddkddu:%nA!{ENTER}", "a!\nb!\nc!", 201);
        ModalPad pad = Probe.after("a\nb\nc", ":%ndddG\"Ayy{ENTER}", "", 0);
        Probe.due("the line that is there then is none of them", Probe.register(pad, 'a'), "2:\n");
        pad = Probe.after("a\nb\nc", ":g/./d{ENTER}:%ndddG\"Ayy{ENTER}", "", 0, 1);
        Probe.due("a sign is no pattern", Probe.register(pad, 'a'), "2:\n");
        pad = Probe.pad("a\nb");
        Probe.type(pad, "x");
        Probe.feed(pad, "c\nd\ne");
        pad.load();
        Probe.type(pad, ":%nA!{ENTER}");
        Probe.due("behind load", Probe.text(pad), "c!\nd!\ne!");
    }

    private static void jumps() {
        String text = "abcdefgh\nabcdefgh\nabcdefgh\nabcdefgh\nx";
        ModalPad pad = Probe.pad(text);
        Probe.type(pad, "2G3l3G5l5G{OLDER}");
        Probe.due("the column of a place", Probe.place(pad), 205);
        Probe.type(pad, "{OLDER}");
        Probe.due("and of another one", Probe.place(pad), 103);
        Probe.type(pad, "{NEWER}");
        Probe.due("newer", Probe.place(pad), 205);
        pad = Probe.pad(text);
        Probe.type(pad, "2G3l3G5lGO{ESC}{OLDER}");
        Probe.due("lines put in behind them", Probe.place(pad), 205);
        pad = Probe.pad(text);
        Probe.type(pad, "2G3l3G5l5G:1m2{ENTER}{OLDER}");
        Probe.due("lines taken out and put in", Probe.place(pad), 205);
        Probe.type(pad, "{OLDER}");
        Probe.due("ahead of it one less", Probe.place(pad), 3);
        pad = Probe.pad(text);
        Probe.type(pad, "3G5l5G:1d{ENTER}{OLDER}");
        Probe.due("a line less ahead", Probe.place(pad), 105);
        pad = Probe.pad(text);
        Probe.type(pad, "3G5l5G:1,2d{ENTER}j{OLDER}");
        Probe.due("two lines less ahead", Probe.place(pad), 5);
        pad = Probe.pad(text);
        Probe.type(pad, "3G5l5G2kO{ESC}{OLDER}");
        Probe.due("a line more ahead", Probe.place(pad), 305);
        pad = Probe.pad(text);
        Probe.type(pad, "3G5l5Gggyy2P{OLDER}");
        Probe.due("two lines more ahead", Probe.place(pad), 600);
        Probe.type(pad, "{OLDER}");
        Probe.due("of the other one", Probe.place(pad), 405);
    }

    private static void marks() {
        ModalPad pad = Probe.pad("abcdefgh\nabcdefgh\nabcdefgh");
        Probe.type(pad, "jl2lmagg");
        Probe.due("the mark", pad.mark('a'), 103);
        Probe.type(pad, "`a");
        Probe.due("the place of it", Probe.place(pad), 103);
        Probe.type(pad, "ggyyP");
        Probe.due("a line ahead", pad.mark('a'), 203);
        Probe.type(pad, "2P");
        Probe.due("two lines ahead", pad.mark('a'), 403);
        Probe.type(pad, "3dd");
        Probe.due("three lines less", pad.mark('a'), 103);
        Probe.type(pad, "G`a");
        Probe.due("the place of it", Probe.place(pad), 103);
    }

    private static void registers() {
        Probe.after("ab", "\"ayl\"_p", "ab", 0, 1);
        Probe.after("ab", "\"zyl\"byl\"_P", "ab", 0, 1);
        Probe.due("nothing of it", Probe.register(Probe.after("ab", "\"ayl\"_x", "b", 0), 'a'), "1:a");
        // a rectangle and lines: no line end more
        ModalPad pad = Probe.pad("x".repeat(59));
        Probe.type(pad, "yy39Pgg0{RECT}G13l\"ay");
        Probe.due("40 rows of 14 signs", pad.registerKind('a') * 10000 + pad.registerLength('a'), 30600);
        Probe.due("40 lines more", Probe.type(pad, "gg\"A40yy"), 0);
        Probe.due("3000 signs of lines", pad.registerKind('a') * 10000 + pad.registerLength('a'), 23000);
        Probe.due("not one more", Probe.type(pad, "\"Ayl"), 1);
    }

    /** The column of the main one stays as others take lines out ahead of it, or its line. */
    private static void cursors() {
        ModalPad many = Probe.after("q\n\nx aaa a", "/a{ENTER}0gm", "q\n\nx aaa a", 202);
        Probe.due("those of one line", Probe.cursors(many), "203 204 206");
        ModalPad pad = Probe.after("q1\nb\nabcdef q\nc\nabcdef", "/q{ENTER}3G$gmdd", "b\nc\nabcdef", 100);
        Probe.due("the other one", Probe.cursors(pad), "0");
        pad = Probe.after("q1\nb\nc\nabcdefq\ne", "/q{ENTER}4G$gmx", "1\nb\nc\nabcdef\ne", 305);
        Probe.due("the other one", Probe.cursors(pad), "0");
        // each joins its line with the next one; the main one is in the line 5
        pad = Probe.after("qa\nb\nc\nx\nabcd q\nefgh", "/q{ENTER}5G$gmJ", "qa b\nc\nx\nabcd q efgh", 306);
        Probe.due("the column stays", Probe.cursors(pad), "2");
        pad = Probe.after("qa\nqb\nx\nabcdefgh", "/q{ENTER}2G0gmJ", "qa qb x\nabcdefgh", 102);
        Probe.due("it is at the next line", Probe.cursors(pad), "2");
        pad = Probe.after("ab\nqa\nqb\nx\nabcdefgh", "/q{ENTER}3G0gmJ", "ab\nqa qb x\nabcdefgh", 202);
        Probe.due("also further down", Probe.cursors(pad), "102");
    }
}
