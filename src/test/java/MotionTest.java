/** Motions in NORMAL (promises 4, 12, 13), and the wanted column. */
public final class MotionTest {
    public static void main(String[] args) {
        columns();
        linesAndWantedColumn();
        words();
        fromWhereCommandsLeaveIt();
        signsOfLine();
        linesByNumber();
        paragraphs();
        brackets();
        searches();
        marks();
        Probe.end();
    }

    /** Keys that only move the cursor. */
    private static void moves(String text, String keys, int wantPlace) {
        Probe.after(text, keys, text, wantPlace);
    }

    private static void fails(String text, String keys, int wantPlace) {
        Probe.after(text, keys, text, wantPlace, 1);
    }

    private static void columns() {
        moves("abcdef", "$h", 4);
        moves("abcdef", "$3h", 2);
        moves("abcdef", "$99h", 0);
        fails("abcdef", "h", 0);
        fails("", "h", 0);
        moves("abcdef", "l", 1);
        moves("abcdef", "3l", 3);
        moves("abcdef", "10l", 5);
        fails("abcdef", "$l", 5);
        fails("a", "l", 0);
        fails("", "l", 0);
        moves("  abc", "$0", 0);
        moves("  abc", "$^", 2);
        moves("    ", "^", 3);
        moves("", "^", 0);
        moves("abc\nde", "$", 2);
        moves("abc\nde", "2$", 101);
        fails("abc\nde", "3$", 0);
        moves("\nde", "$", 0);
    }

    private static void linesAndWantedColumn() {
        String text = "abcdef\nab\n\nabcde";
        moves(text, "4lj", 101);
        moves(text, "4l2j", 200);
        moves(text, "4l3j", 304);
        moves(text, "$3j", 304);
        moves("abc\nabcdef\nab\nabcd", "$j", 105);
        moves("abc\nabcdef\nab\nabcd", "$2jj", 303);
        moves(text, "$jkl", 5, 1);
        moves(text, "4l3jkkk", 4);
        moves(text, "4ljhk", 0);
        moves(text, "4ljylk", 1);
        moves(text, "3j3lgg", 0);
        fails(text, "4j", 0);
        fails(text, "jjjj", 300);
        fails(text, "k", 0);
        fails(text, "j2k", 100);
        // what u, and insertions, leave as the column is the wanted one
        Probe.after("abcdef\nab\nabcdef", "5lji{ESC}j", "abcdef\nab\nabcdef", 200);
        Probe.after("abcd\nabcdef", "$xj", "abc\nabcdef", 102);
        Probe.after("abcdef\nabcdef", "4lxg-$g+j", "abcdf\nabcdef", 100);
        Probe.after("ab\nabcdef", "llxug+3l", "a\nabcdef", 0, 2);
    }

    private static void moves(String text, String keys, int wantPlace, int failures) {
        Probe.after(text, keys, text, wantPlace, failures);
    }

    private static void words() {
        String text = "foo bar  (x_1)\n\n  end";
        int[] begins = {4, 9, 10, 13, 100, 202, 204};
        for (int i = 0; i < begins.length; i++) {
            moves(text, (i + 1) + "w", begins[i]);
            moves(text, "w".repeat(i + 1), begins[i]);
        }
        moves(text, "99w", 204);
        moves("bA Z0 z9_ a@ [", "w", 3);
        moves("bA Z0 z9_ a@ [", "4w", 11);
        fails(text, "G$w", 204);
        fails("a", "w", 0);
        fails("", "w", 0);
        int[] back = {202, 100, 13, 10, 9, 4, 0};
        for (int i = 0; i < back.length; i++) {
            moves(text, "G$" + (i + 1) + "b", back[i]);
        }
        moves(text, "G$99b", 0);
        fails(text, "b", 0);
        moves("  ab", "2lb", 0);
        moves("ab\ncd ef", "G$bb", 100);
        moves("abc", "$2b", 0);
        moves("a b", "2w", 2);
        int[] ends = {2, 6, 9, 12, 13, 204};
        for (int i = 0; i < ends.length; i++) {
            moves(text, (i + 1) + "e", ends[i]);
        }
        fails(text, "7e", 0);
        fails("ab  ", "$e", 3);
        moves("ab\nc d", "2e", 100);
    }

    private static void fromWhereCommandsLeaveIt() {
        Probe.after("ab cd", "wA z{ESC}e", "ab cd z", 6, 1);
        Probe.after("ab cd", "wA z{ESC}b", "ab cd z", 3);
        Probe.after("ab cd", "wA z{ESC}}", "ab cd z", 6, 1);
        moves("x".repeat(59) + "y\nab", "/y{ENTER}jN", 59);
        moves("ab(c", "t(", 1);
        moves("(abc", "$T(", 1);
    }

    private static void signsOfLine() {
        String text = "axbxcx\nx";
        moves(text, "fx", 1);
        moves(text, "2fx", 3);
        fails(text, "4fx", 0);
        moves(text, "tx", 0);
        moves(text, "2tx", 2);
        moves(text, "$Fx", 3);
        moves(text, "$2Fx", 1);
        moves(text, "$Fa", 0);
        moves(text, "$Ta", 1);
        moves(text, "$ta", 5, 1);
        fails(text, "$3Fx", 5);
        moves(text, "$Tx", 4);
        moves(text, "$hTx", 4);
        moves(text, "fx;", 3);
        moves(text, "fx2;", 5);
        moves(text, "3fx,", 3);
        moves(text, "3fx2,", 1);
        moves(text, "$Fx;", 1);
        moves(text, "$Fx,", 5);
        moves(text, "tx;", 0);
        moves(text, "2tx,", 2);
        moves(text, "$Tx,", 4);
        fails(text, ";", 0);
        fails(text, ",", 0);
        fails(text, "fxfq;", 3);
        moves(text, "f{ESC}l", 1);
        fails(text, "f{ENTER}", 0);
        fails(text, "f{BACK}", 0);
    }

    private static void linesByNumber() {
        String text = "a\n  bc\n    \nddd";
        moves(text, "G", 300);
        moves(text, "1G", 0);
        moves(text, "2G", 102);
        moves(text, "3G", 203);
        moves(text, "99G", 300);
        moves(text, "Ggg", 0);
        moves(text, "2gg", 102);
        moves(text, "50gg", 300);
        moves(text, "120G", 300);
    }

    private static void paragraphs() {
        String text = "a\n\n\nb\n\ncd";
        moves(text, "}", 100);
        moves(text, "2}", 400);
        moves(text, "3}", 501);
        moves(text, "9}", 501);
        moves(text, "j}", 400);
        fails(text, "G$}", 501);
        moves("a\n", "2}", 100);
        moves(text, "G{", 400);
        moves(text, "G2{", 200);
        moves(text, "G3{", 0);
        moves(text, "2j{", 0);
        fails(text, "{", 0);
    }

    private static void brackets() {
        moves("x (a[b]c)", "%", 8);
        moves("x (a[b]c)", "%%", 2);
        moves("x (a[b]c)", "4l%", 6);
        moves("f(\n a(\n)\n)", "%", 300);
        moves("f(\n a(\n)\n)", "G%", 1);
        moves("(]{[)", "%", 4);
        fails("abc", "%", 0);
        fails("ab(", "%", 0);
        moves("(\n))", "j%", 0);
        fails("(\n))", "j$%", 101);
    }

    private static void searches() {
        String text = "one two\ntwo one\none";
        moves(text, "/one{ENTER}", 104);
        moves(text, "2/one{ENTER}", 200);
        moves(text, "3/one{ENTER}", 0);
        moves(text, "/one{ENTER}n", 200);
        moves(text, "/one{ENTER}2n", 0);
        moves(text, "/one{ENTER}N", 0);
        moves(text, "/one{ENTER}2N", 200);
        moves(text, "/one{ENTER}NN", 200);
        moves(text, "G/two{ENTER}N", 100);
        moves("ab ab ab", "/ab{ENTER}$N", 6);
        moves("ab ab ab", "/ab{ENTER}$2N", 3);
        moves("ab ab\nab", "/ab{ENTER}0NN", 3);
        fails(text, "/nix{ENTER}", 0);
        fails(text, "/{ENTER}", 0);
        fails(text, "n", 0);
        fails(text, "N", 0);
        fails(text, "/one{ENTER}/nix{ENTER}n", 200);
        moves(text, "/o{ESC}l", 1);
        fails(text, "/o{BACK}", 0);
        moves("aaa", "/aa{ENTER}", 1);
        moves("xone", "l/one{ENTER}", 1);
        ModalPad pad = Probe.pad(text);
        Probe.due("WRAP was on", pad.setWrap(false), true);
        Probe.due("WRAP was off", pad.setWrap(false), false);
        Probe.due("3 without WRAP", Probe.type(pad, "3/one{ENTER}"), 1);
        Probe.due("place", Probe.place(pad), 0);
        Probe.due("2 without WRAP", Probe.type(pad, "2/one{ENTER}"), 0);
        Probe.due("place", Probe.place(pad), 200);
        Probe.due("n at the end", Probe.type(pad, "n"), 1);
        Probe.due("N", Probe.type(pad, "2N"), 0);
        Probe.due("place", Probe.place(pad), 0);
        Probe.due("N at the beginning", Probe.type(pad, "N"), 1);
        Probe.due("WRAP on again", pad.setWrap(true), false);
        Probe.due("N goes round", Probe.type(pad, "N"), 0);
        Probe.due("place", Probe.place(pad), 200);
        Probe.due("agrees", pad.agrees(), true);
    }

    private static void marks() {
        String text = "abc\n  def\ng";
        moves(text, "j$magg'a", 102);
        moves(text, "j$magg`a", 104);
        fails(text, "'a", 0);
        fails(text, "`b", 0);
        fails(text, "mA", 0);
        fails(text, "m@", 0);
        fails(text, "'@", 0);
        fails(text, "q@", 0);
        Probe.after("abc\ndefghi", "j$maDD0gg$d`a", "abg", 2);
        fails(text, "'1", 0);
        Probe.after(text, "j$magg0jDk`a", "abc\n\ng", 100);
        ModalPad pad = Probe.pad(text);
        Probe.type(pad, "jlmzG");
        Probe.due("mark z", pad.mark('z'), 101);
        for (char letter : new char[] {'A', '0', '`', '{', 0, (char) 300}) {
            Probe.due("mark " + (int) letter, Probe.thrown(() -> pad.mark(letter)), "IllegalArgumentException");
        }
    }
}
