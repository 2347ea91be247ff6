/** Operators with motions and objects, x and the like, J, r, ~ (promises 4, 9 to 13). */
public final class OperatorTest {
    public static void main(String[] args) {
        deleting();
        deletingLines();
        spansOfWords();
        changing();
        yanking();
        shifting();
        swapping();
        wordObjects();
        otherObjects();
        shortForms();
        joining();
        replacing();
        grammar();
        edges();
        Probe.end();
    }

    private static void deleting() {
        Probe.after("abcdef", "dl", "bcdef", 0);
        Probe.after("abcdef", "$dl", "abcde", 4);
        Probe.after("abcdef", "3ld9l", "abc", 2);
        Probe.after("abcdef", "3l2dh", "adef", 1);
        Probe.after("abcdef", "dh", "abcdef", 0, 1);
        Probe.after("", "dl", "", 0, 1);
        Probe.after("abcdef", "3ld0", "def", 0);
        Probe.after("abcdef", "d0", "abcdef", 0, 1);
        Probe.after("  abcd", "4ld^", "  cd", 2);
        Probe.after("abcdef", "2ld$", "ab", 1);
        Probe.after("abc\nde\nf", "ld2$", "a\nf", 0);
        Probe.after("abc\n\nf", "ld2$", "a\nf", 0);
        Probe.after("\nab", "d$", "\nab", 0, 1);
        Probe.after("\nab", "d2$", "", 0);
        Probe.after("abc", "d2$", "abc", 0, 1);
        Probe.after("axbxc", "dfx", "bxc", 0);
        Probe.after("axbxc", "d2tx", "xc", 0);
        Probe.after("axbxc", "dtx", "xbxc", 0);
        Probe.after("axbxc", "ldtx", "axc", 1);
        Probe.after("axbxc", "$dFx", "axbc", 3);
        Probe.after("axbxc", "$d2Tx", "axc", 2);
        Probe.after("axbxc", "$dTx", "axbxc", 4, 1);
        Probe.after("axbxc", "fxd;", "ac", 1);
        Probe.after("axbxcx", "dfx;", "bxcx", 1);
        Probe.after("axbxcx", "dfq;", "axbxcx", 0, 2);
        Probe.after("a b a b", "d/b{ENTER}n", "b a b", 4);
        Probe.after("f(a(b)c)d", "d%", "d", 0);
        Probe.after("f(a)d", "3ld%", "fd", 1);
        Probe.after("one two one", "d/one{ENTER}", "one", 0);
        Probe.after("one two one", "/one{ENTER}dN", "one", 0);
        Probe.after("one", "d/one{ENTER}", "one", 0, 1);
        Probe.after("one\ntwo", "ld/two{ENTER}", "o\ntwo", 0);
        Probe.after("one\n two", "ld/two{ENTER}", "otwo", 1);
        Probe.after("abcd", "llma0d`a", "cd", 0);
        Probe.after("abcd", "mad`a", "abcd", 0, 1);
        Probe.after("a\nbc\n\nd", "d}", "\n\nd", 0);
        Probe.after("ab\ncd", "d}", "d", 0);
        Probe.after("ab\n\ncd", "Gd{", "ab\n\ncd", 200, 1);
        Probe.after("ab\n\nx\ncd", "Gd{", "ab\n\ncd", 100);
        Probe.after("abcd\n\n" + "x".repeat(57), "d2/x{ENTER}", "x".repeat(56), 0);
        Probe.after("abcdefgh\n" + "x".repeat(57), "4ld3/x{ENTER}", "abcd" + "x".repeat(55), 4);
        Probe.after("abcdefgh\n" + "x".repeat(60), "5ld2/x{ENTER}", "abcdefgh\n" + "x".repeat(60), 5, 1);
    }

    private static void deletingLines() {
        String text = "a\n  b\nc\nd";
        Probe.after(text, "dd", "  b\nc\nd", 2);
        Probe.after(text, "2dd", "c\nd", 0);
        Probe.after(text, "d3d", "d", 0);
        Probe.after(text, "2d2d", "", 0);
        Probe.after(text, "5dd", text, 0, 1);
        Probe.after(text, "jd3d", "a", 0);
        Probe.after(text, "jd4d", text, 100, 1);
        Probe.after(text, "Gdd", "a\n  b\nc", 200);
        Probe.after(text, "dj", "c\nd", 0);
        Probe.after(text, "Gd2k", "a", 0);
        Probe.after(text, "dk", text, 0, 1);
        Probe.after(text, "jdG", "a", 0);
        Probe.after(text, "jdgg", "c\nd", 0);
        Probe.after(text, "d3G", "d", 0);
        Probe.after(text, "Gmaggd'a", "", 0);
        Probe.after("abc", "dd", "", 0);
    }

    private static void spansOfWords() {
        Probe.after("foo bar\nx", "dw", "bar\nx", 0);
        Probe.after("foo bar\nx", "wdw", "foo \nx", 3);
                Probe.after("foo bar\nx", "d3w", "", 0);
        Probe.after("foo bar\nx", "d2w", "\nx", 0);
        Probe.after("foo bar\nx", "d9w", "", 0);
        Probe.after("foo\n  \nbar", "dw", "\nbar", 0);
        Probe.after("foo\n\nbar", "d2w", "\n\nbar", 0);
        Probe.after("a", "dw", "", 0);
        Probe.after("\nfoo", "dw", "\nfoo", 0, 1);
        Probe.after("foo  ", "dw", "", 0);
        Probe.after("foo bar", "$db", "foo r", 4);
        Probe.after("foo\nbar", "jdb", "\nbar", 0);
        Probe.after("foo bar baz", "d2e", " baz", 0);
        Probe.after("foo bar", "d3e", "foo bar", 0, 1);
        Probe.after("a b c d e", "2d2w", "e", 0);
    }

    private static void changing() {
        Probe.after("foo bar", "cwx{ESC}", "xbar", 0);
        Probe.after("foo bar", "cex{ESC}", "x bar", 0);
        Probe.after("foo bar", "wC..{ESC}", "foo ..", 5);
        Probe.after("a\nb\nc", "jccxy{ESC}", "a\nxy\nc", 101);
        Probe.after("a\nb\nc", "c2cxy{ESC}", "xy\nc", 1);
        Probe.after("a\nb", "cGx{ESC}", "x", 0);
        Probe.after("foo(a b)", "fac2lx{ESC}", "foo(xb)", 4);
        Probe.after("abc", "$clx{ESC}", "abx", 2);
        Probe.after("abc", "ch", "abc", 0, 1);
        ModalPad pad = Probe.after("ab\ncd", "cc", "\ncd", 0);
        Probe.due("mode", pad.mode(), ModalPad.INSERT);
        Probe.due("register", Probe.register(pad, '1'), "2:ab\n");
        Probe.after("ab", "$cl", "a", 1);
    }

    private static void yanking() {
        ModalPad pad = Probe.after("foo bar\nx", "wyb", "foo bar\nx", 0);
        Probe.due("register", Probe.register(pad, '"'), "1:foo ");
        Probe.after("foo bar\nx\nabc", "2j$yk", "foo bar\nx\nabc", 100);
        Probe.after("foo bar\nabc", "j$ykj", "foo bar\nabc", 102);
        Probe.after("foo bar\nabc", "$yj", "foo bar\nabc", 6);
        Probe.after("foo bar\nabcdefgh", "$yyj", "foo bar\nabcdefgh", 106);
        Probe.after("foo bar", "wyiw0", "foo bar", 0);
    }

    private static void shifting() {
        Probe.after("ab\n\n cd", ">j", "  ab\n\n cd", 2);
        Probe.after("ab\n\n cd", ">G", "  ab\n\n   cd", 2);
        Probe.after("ab\n cd\n   ef", "<G", "ab\ncd\n ef", 0);
        Probe.after("ab\ncd", "j>k", "  ab\n  cd", 2);
        Probe.after("ab\ncd", "2>>", "  ab\n  cd", 2);
        Probe.after("ab\ncd", ">3>", "ab\ncd", 0, 1);
        Probe.after("    ab", "<<", "  ab", 2);
        Probe.after("ab cd\nx", ">w", "  ab cd\nx", 2);
        String full = "x".repeat(58);
        Probe.after(full, ">>", "  " + full, 2);
        Probe.after("a\nx" + full, ">j", "a\nx" + full, 0, 1);
        Probe.after("", ">>", "", 0);
        Probe.after("(\na\n)", ">i(", "  (\n  a\n)", 2);
        Probe.after("(a\nb)", ">i(", "  (a\n  b)", 2);
        Probe.after("a\n b\n\nc", ">2}", "  a\n   b\n\nc", 2);
    }

    private static void swapping() {
        Probe.after("aBc1 x", "g~w", "AbC1 x", 0);
        Probe.after("aBc1 x", "$g~b", "AbC1 x", 0);
        Probe.after("ab\ncd\nef", "l2g~~", "AB\nCD\nef", 0);
        Probe.after("ab\ncd\nef", "lg~j", "AB\nCD\nef", 0);
        Probe.after("abcd", "g~3~", "abcd", 0, 1);
        Probe.after("abcd", "lg~~", "ABCD", 0);
        Probe.after("abcd", "lg~l", "aBcd", 1);
        Probe.after("abcd", "g~g~", "abcd", 0, 1);
        Probe.after("abcd", "~", "Abcd", 1);
        Probe.after("abcd", "2~", "ABcd", 2);
        Probe.after("abcd", "9~", "ABCD", 3);
        Probe.after("", "~", "", 0, 1);
        Probe.after("a{z`@[", "9~", "A{Z`@[", 5);
    }

    /** Texts and lines that are hardly there, or just full. */
    private static void edges() {
        Probe.after("a", "D", "", 0);
        Probe.after("a", "diw", "", 0);
        Probe.after("foo bar", "wc9iw", "foo bar", 4, 1);
        Probe.after("foo bar", "ciwx{ESC}$d9iw", "x bar", 4, 1);
        Probe.after("b\n", "jdap", "", 0);
        Probe.after("a\n\n", "Gdip", "a", 0);
        Probe.after("ab", ">0", "ab", 0, 1);
        Probe.after("  ab", "0</  ab{ENTER}", "  ab", 0, 1);
        Probe.after("zZaA", "4~", "ZzAa", 3);
        Probe.after("zZaA", "g~~", "ZzAa", 0);
        Probe.after("a(b)c(d", "dt(", "(b)c(d", 0);
        Probe.after("a(b)c(d", "$dF(", "a(b)cd", 5);
        Probe.after("\n" + "x".repeat(60), "J", "x".repeat(60), 0);
        Probe.after("\n " + "x".repeat(59), "J", "x".repeat(59), 0);
        // of a line of blanks the last sign is the wanted column
        Probe.after("x\n   \nabcdef", "ddj", "   \nabcdef", 102);
    }

    private static void wordObjects() {
        Probe.after("foo bar baz", "wdiw", "foo  baz", 4);
        Probe.after("foo bar baz", "wdaw", "foo baz", 4);
        Probe.after("foo bar", "wdaw", "foo", 2);
        Probe.after("foo bar", "fodiw", " bar", 0);
        Probe.after("foo  bar", "3ldiw", "foobar", 3);
        Probe.after("foo  bar", "3ldaw", "foobar", 3);
        Probe.after("a,b c", "ldiw", "ab c", 1);
        Probe.after("a b c d", "d3iw", " c d", 0);
        Probe.after("a b c d", "3diw", " c d", 0);
        Probe.after("a b c d", "wd3aw", "a d", 2);
        Probe.after("a b c d", "d2aw", "b c d", 0);
        Probe.after("a b", "d4iw", "a b", 0, 1);
        Probe.after("", "diw", "", 0, 1);
        Probe.after("", "daw", "", 0, 1);
        Probe.after("", "ciw", "", 0, 1);
        Probe.after("a b", "ci\"", "a b", 0, 1);
        Probe.after("a b", "ci(", "a b", 0, 1);
        Probe.after("a\nb", "d2iw", "a\nb", 0, 1);
    }

    private static void otherObjects() {
        Probe.after("a \"b c\" d", "di\"", "a \"\" d", 3);
        Probe.after("a \"b c\" d", "da\"", "a  d", 2);
        Probe.after("a \"b\" c \"d\"", "fcdi\"", "a \"b\" c \"\"", 9);
        Probe.after("a \"b\" c \"d\"", "6ldi\"", "a \"b\" c \"\"", 9);
        Probe.after("a \"b\" c \"d", "fcdi\"", "a \"b\" c \"d", 6, 1);
        Probe.after("a \"b\" c", "4ldi\"", "a \"\" c", 3);
        Probe.after("a \"b\" c", "fbda\"", "a  c", 2);
        Probe.after("\"a\" b", "di\"", "\"\" b", 1);
        Probe.after("a \"\" b", "di\"", "a \"\" b", 0, 1);
        Probe.after("a \"\" b", "ci\"x{ESC}", "a \"x\" b", 3);
        Probe.after("f(a(b)c)", "4ldi(", "f(a()c)", 4);
        Probe.after("f(a(b)c)", "4ld2i(", "f()", 2);
        Probe.after("f(a(b)c)", "4ld2a(", "f", 0);
        Probe.after("f(a(b)c)", "4ld3i(", "f(a(b)c)", 4, 1);
        Probe.after("f(a(b)c)", "3lda(", "f(ac)", 3);
        Probe.after("f(a(b)c)", "5lda(", "f(ac)", 3);
        Probe.after("f[a]{b}", "fadi[", "f[]{b}", 2);
        Probe.after("f[a]{b}", "fbda{", "f[a]", 3);
        Probe.after("f(a)", "di(", "f(a)", 0, 1);
        Probe.after("f()", "ldi(", "f()", 1, 1);
        Probe.after("f()", "lyi(", "f()", 1, 1);
        ModalPad pad = Probe.after("x\nf()", "ylj0lci(x{ESC}", "x\nf(x)", 102);
        Probe.due("nothing is written", Probe.register(pad, '"'), "1:x");
        Probe.after("f(\n a\n)", "ldi(", "f()", 2);
        Probe.after("f(\n a\n)", "jyi(", "f(\n a\n)", 1);
        Probe.after("f(x", "2ldi(", "f(x", 2, 1);
        Probe.after("(a)", "ldi(", "()", 1);
        Probe.after("a(b\n(c) d)", "j$hda(", "a", 0);
        Probe.after("f(x)", "ldi)", "f(x)", 1, 1);
        Probe.after("a\nb\n\n\nc", "dip", "\n\nc", 0);
        Probe.after("a\nb\n\n\nc", "dap", "c", 0);
        Probe.after("a\nb\n\n\nc", "Gdap", "a\nb", 100);
        Probe.after("a\nb\n\n\nc", "2jdip", "a\nb\nc", 200);
        Probe.after("a\nb\n\n\nc", "2jdap", "a\nb", 100);
        Probe.after("a\nb", "dap", "", 0);
        Probe.after("\nb", "Gdap", "", 0);
        Probe.after("a\nb\n\nc", "d9ip", "\nc", 0);
    }

    private static void shortForms() {
        Probe.after("abcdef", "x", "bcdef", 0);
        Probe.after("abcdef", "l3x", "aef", 1);
        Probe.after("abcdef", "3l9x", "abc", 2);
        Probe.after("", "x", "", 0, 1);
        Probe.after("abcdef", "3lX", "abdef", 2);
        Probe.after("abcdef", "3l9X", "def", 0);
        Probe.after("abcdef", "X", "abcdef", 0, 1);
        Probe.after("abcdef", "3lD", "abc", 2);
        Probe.after("abc\ndef\ng", "l2D", "a\ng", 0);
        Probe.after("\na", "D", "\na", 0, 1);
        Probe.after("\na", "C", "\na", 0, 1);
        Probe.after("abc", "l3D", "abc", 1, 1);
        Probe.after("abcdef", "l2sx{ESC}", "axdef", 1);
        Probe.after("", "s", "", 0, 1);
        Probe.after("a\nb\nc", "2Sx{ESC}", "x\nc", 0);
        ModalPad pad = Probe.after("a\nb\nc", "2Y", "a\nb\nc", 0);
        Probe.due("Y", Probe.register(pad, '0'), "2:a\nb\n");
        Probe.after("a\nb", "3Y", "a\nb", 0, 1);
    }

    private static void joining() {
        Probe.after("a\n  b\nc", "J", "a b\nc", 1);
        Probe.after("a\n  b\nc", "2J", "a b\nc", 1);
        Probe.after("a\n  b\nc", "3J", "a b c", 3);
        Probe.after("a\n  b\nc", "4J", "a\n  b\nc", 0, 1);
        Probe.after("a", "J", "a", 0, 1);
        Probe.after("a\n\nb", "J", "a\nb", 0);
        Probe.after("a\n\nb", "3J", "a b", 1);
        Probe.after("\n  b", "J", "b", 0);
        Probe.after("ab\n   ", "J", "ab", 1);
        Probe.after("\n", "J", "", 0);
        Probe.after("x".repeat(60) + "\n  \n", "3J", "x".repeat(60), 59);
        Probe.after("a \nb", "J", "a  b", 2);
        Probe.after("x".repeat(30) + "\n" + "y".repeat(29), "J", "x".repeat(30) + " " + "y".repeat(29), 30);
        Probe.after("x".repeat(30) + "\n" + "y".repeat(30), "J", "x".repeat(30) + "\n" + "y".repeat(30), 0, 1);
    }

    private static void replacing() {
        Probe.after("abcd", "rx", "xbcd", 0);
        Probe.after("abcd", "l3rx", "axxx", 3);
        Probe.after("abcd", "l4rx", "abcd", 1, 1);
        Probe.after("", "rx", "", 0, 1);
        Probe.after("abcd", "r{ENTER}", "abcd", 0, 1);
        Probe.after("abcd", "r{ESC}l", "abcd", 1);
        Probe.after("abcd", "r ", " bcd", 0);
    }

    private static void grammar() {
        String text = "a b c d e f g h i j k l m n o p q r s t u v w x y z";
        Probe.after(text, "2d10wrA", text.substring(40).replace('u', 'A'), 0);
        Probe.after(text, "d2{ESC}x", text.substring(1), 0);
        Probe.after(text, "3\"x", text.substring(1), 0, 1);
        Probe.after(text, "\"?x", text.substring(1), 0, 1);
        Probe.after(text, "\"a3x", text.substring(3), 0);
        Probe.after(text, "\"a\"x", text.substring(1), 0, 1);
        Probe.after(text, "dQ", text, 0, 1);
        Probe.after(text, "dv", text, 0, 1);
        Probe.after(text, "gQ", text, 0, 1);
        Probe.after(text, "zQ", text, 0, 1);
        Probe.after(text, "Q", text, 0, 1);
        Probe.after(text, "{ENTER}", text, 0, 1);
        Probe.after(text, "{BACK}", text, 0, 1);
        Probe.after(text, "d{ENTER}", text, 0, 1);
        Probe.after(text, "yd", text, 0, 1);
        Probe.after(text, "dix", text, 0, 1);
        Probe.after(text, "ix{ESC}", "x" + text, 0);
        ModalPad pad = Probe.pad(text);
        String keys = "\"a12d30f";
        for (int i = 0; i < keys.length(); i++) {
            Probe.type(pad, keys.substring(i, i + 1));
            Probe.due("given after " + (i + 1), pad.given(), i + 1);
        }
        Probe.due("it fails", Probe.type(pad, "x"), 1);
        Probe.due("given", pad.given(), 0);
        Probe.type(pad, "d/ab");
        Probe.due("given of a search", pad.given(), 4);
        Probe.type(pad, "{ESC}");
        Probe.due("ESC drops", pad.given(), 0);
        Probe.due("which is no failure", pad.failures(), 1);
        Probe.due("keys that are none", pad.keys(Probe.packed(1, 200, 'l', 0, 127, 255, 'l', 10)), 0);
        Probe.due("are passed over", pad.column(), 2);
        Probe.due("taken", pad.taken(), keys.length() + 1 + 4 + 1 + 2);
    }
}
