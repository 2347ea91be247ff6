/** The edges that the document names for NORMAL, sentence by sentence: keys, counts, motions, spans, objects. */
public final class NormalEdgesTest {
    private static final String FORTY = "\n".repeat(39), SIXTY = "x".repeat(60);
    private static final String[] OPERATORS = {"d", "c", "y", ">", "<", "g~", "zf"};

    public static void main(String[] args) {
        text();
        cursor();
        keysSoFar();
        keysThatCanBeNone();
        counts();
        numberOfLines();
        columns();
        endOfLine();
        words();
        signsOfLine();
        lines();
        emptyLines();
        brackets();
        searches();
        marks();
        spans();
        wordObjects();
        otherObjects();
        Probe.end();
    }

    /** Keys that change nothing but the place of the cursor. */
    private static void goes(String text, String keys, int wantPlace) {
        Probe.after(text, keys, text, wantPlace);
    }

    /** The last command of the keys fails, and nothing changes by it. */
    private static void fails(String text, String keys, int wantPlace) {
        ModalPad pad = Probe.after(text, keys, text, wantPlace, 1);
        Probe.due("NORMAL behind " + keys, pad.mode() * 10 + pad.given(), 0);
        Probe.due("states behind " + keys, pad.states(), 1);
    }

    /** "1 to 40 lines of at most 60 signs", "a command also fails if the text would get too long by it". */
    private static void text() {
        Probe.after("a\nb", "dG", "", 0);
        Probe.after("", "dd", "", 0);
        fails(FORTY, "o", 0);
        fails(FORTY, "O", 0);
        Probe.after(FORTY.substring(1), "Go{ESC}", FORTY, 3900);
        fails(FORTY, "yyp", 0);
        fails(FORTY, "yyP", 0);
        Probe.after(FORTY.substring(1), "yyGp", FORTY, 3900);
        fails("ab" + FORTY, "{RECT}jyGp", 3900);
        fails(SIXTY, "ylp", 0);
        fails(SIXTY, "ylP", 0);
        Probe.after(SIXTY.substring(1), "ylp", SIXTY, 1);
        fails(SIXTY.substring(1), ">>", 0);
        Probe.after(SIXTY.substring(2), ">>", "  " + SIXTY.substring(2), 2);
        fails("a\n" + SIXTY.substring(1), ">j", 0);
        fails(SIXTY.substring(1) + "\ny", "J", 0);
        Probe.after(SIXTY.substring(2) + "\ny", "J", SIXTY.substring(2) + " y", 58);
        String text = "abc\nde" + SIXTY.substring(2);
        fails(text, "lld/exx{ENTER}", 2);
        fails(text, "llc/exx{ENTER}", 2);
        Probe.after(text, "ld/exx{ENTER}", "ae" + SIXTY.substring(2), 1);
        fails("ab" + SIXTY.substring(2) + "\ncd", "vjyP", 0);
    }

    /** "In INSERT 0 to the length of the line, otherwise 0 to the length less 1 (0 on an empty line)". */
    private static void cursor() {
        goes("ab", "A", 2);
        goes("ab", "$a", 2);
        goes("", "A", 0);
        goes(SIXTY, "A", 60);
        goes("ab", "A{ESC}", 1);
        goes("", "A{ESC}", 0);
        goes("ab", "$:", 1);
        goes("ab", "9lv9l", 1, 1);
        goes("\nab", "v$", 0);
        // if a line is shorter, it is on the last column that there is
        goes("abc\na\n\nabcd", "$j", 100);
        goes("abc\na\n\nabcd", "$2j", 200);
        goes("abc\na\n\nabcd", "$hjjj", 301);
        goes("abc\na\n\nabcd", "$3j", 303);
        Probe.after("abc", "$x", "ab", 1);
        Probe.after("a", "x", "", 0);
    }

    private static void goes(String text, String keys, int wantPlace, int wantFailures) {
        Probe.after(text, keys, text, wantPlace, wantFailures);
    }

    /** "ESC always drops what there is so far (that is no failure)". */
    private static void keysSoFar() {
        String[] keys = {"\"", "\"a", "\"A2", "\"_99", "7", "d", "\"ad", "3d", "d3", "2d12", "dg", "di", "d2a", "df", "dT",
            "d'", "d`", "d/", "d/ab c", "g", "g~", "g~2", "g~g", "z", "zf", "zf9", "zfi", "f", "t", "F", "T", "/", "/abc",
            "r", "3r", "m", "@", "q", "'", "`", ">", "<2", "c", "y"};
        for (String given : keys) {
            ModalPad pad = Probe.pad("ab c\nd");
            Probe.type(pad, "l" + given);
            Probe.due("given behind " + given, pad.given(), given.length());
            Probe.due("a failure by ESC behind " + given, Probe.type(pad, "{ESC}"), 0);
            Probe.due("given", pad.given() * 10 + pad.mode(), 0);
            Probe.type(pad, "x");
            Probe.due("what comes next behind " + given, Probe.text(pad) + Probe.place(pad), "a c\nd1");
            Probe.due("it went to -", Probe.register(pad, '-'), "1:b");
            Probe.due("agrees", pad.agrees(), true);
        }
    }

    /** "With the first key with which they can be none any more, the command fails". */
    private static void keysThatCanBeNone() {
        String[][] keys = {{"", "Q", "K", "!", "&", "Z", "+", "\\", "{ENTER}", "{BACK}"},
            {"\"", "!", " ", "@", "[", "{ENTER}"}, {"\"a", "\"", "Q"}, {"2", "\"", "Q", "{BACK}"},
            {"d", "x", "p", "c", "D", "z", "u", "v", "m", "r", "@", "q", "\"", "y", "{ENTER}", "{OLDER}"},
            {"d2", "x", "\"", "y", "c"}, {"c", "d", "s", "C"}, {"y", "Y", "d"}, {">", "<", "x"}, {"<", ">"},
            {"dg", "~", "x", "-", "m", "d"}, {"g", "x", "G", "d", "{ENTER}"}, {"z", "z", "x", "F"},
            {"zf", "o", "c", "d"}, {"g~", "x", "d"}, {"g~g", "~", "x"}, {"di", "i", ")", "]", "}", "W", "{ENTER}"},
            {"da", "a", "'", "b"}, {"f", "{ENTER}", "{BACK}", "{NEWER}"}, {"df", "{ENTER}"}, {"r", "{ENTER}", "{BACK}"},
            {"/", "{BACK}", "{RECT}"}, {"/ab", "{BACK}", "{OLDER}"}, {"m", "A", "1", " ", "{ENTER}"}, {"'", "A", "0", "'"},
            {"`", "Z", "`", "{"}, {"@", "A", "1", "\"", ":"}, {"q", "A", "0", "\""}};
        for (String[] row : keys) {
            for (int i = 1; i < row.length; i++) {
                ModalPad pad = Probe.pad("ab\ncd");
                Probe.type(pad, row[0]);
                Probe.due("given behind " + row[0], pad.given(), row[0].length());
                Probe.due(row[0] + row[i] + " fails", Probe.type(pad, row[i]), 1);
                Probe.due("nothing is given behind " + row[0] + row[i], pad.given() * 10 + pad.mode(), 0);
                Probe.due("text", Probe.text(pad) + Probe.place(pad), "ab\ncd0");
                Probe.due("the next key begins a command", Probe.type(pad, "l") * 10 + pad.column(), 1);
            }
        }
    }

    /** "Digits, not beginning with 0; at most 99, more count as 99", "both counts being multiplied (to 99 at most)". */
    private static void counts() {
        String row = "a a a a a a a a a a a a a a a a a a a a a a a a a a a a a a";
        String text = row + "\n" + row + "\n" + row + "\n" + row;
        goes(text, "98w", 316);
        goes(text, "99w", 318);
        goes(text, "100w", 318);
        goes(text, "990w", 318);
        goes(text, "1234567890123w", 318);
        goes(text, "10l0", 0);
        goes(text, "20l30h", 0);
        for (String keys : new String[] {"99yw", "y99w", "10y10w", "9y11w", "99y99w", "100y1w", "1y1000w"}) {
            ModalPad pad = Probe.after(text, keys, text, 0);
            Probe.due("99 words by " + keys, pad.registerLength('0'), 3 * 60 + 18);
        }
        Probe.due("98 words", Probe.after(text, "2y49w", text, 0).registerLength('0'), 3 * 60 + 16);
        Probe.due("0 is a motion", Probe.after(text, "9ly0", text, 0).registerLength('0'), 9);
        Probe.due("10 is a count", Probe.after(text, "y10l", text, 0).registerLength('0'), 10);
    }

    /** "The operator for that many lines from that of the cursor on, which have to be there". */
    private static void numberOfLines() {
        String[][] doubled = {{"d", "d"}, {"c", "c"}, {"y", "y"}, {">", ">"}, {"<", "<"}, {"g~", "~"}, {"zf", "z"}};
        for (String[] keys : doubled) {
            for (String many : new String[] {"4" + keys[0] + keys[1], keys[0] + "4" + keys[1], "2" + keys[0] + "2" + keys[1],
                "99" + keys[0] + keys[1], "99" + keys[0] + "99" + keys[1]}) {
                fails(" a\n b\n c\n d", "j" + many, 100);
            }
            for (String all : new String[] {"3" + keys[0] + keys[1], keys[0] + "3" + keys[1], "3" + keys[0] + "1" + keys[1]}) {
                ModalPad pad = Probe.pad(" a\n b\n c\n d");
                Probe.due("no failure by " + all, Probe.type(pad, "j" + all), 0);
            }
        }
        fails("a\nb", "3S", 0);
        fails("a\nb", "3Y", 0);
        fails("a\nb", "jJ", 100);
        fails("a\nb", "3J", 0);
        Probe.after("a\nb\nc\nd", "jd3d", "a", 0);
        Probe.after("a\nb\nc\nd", "3dd", "d", 0);
    }

    /** h, l, j, k, 0, ^ and what of them fails. */
    private static void columns() {
        fails("abc", "h", 0);
        fails("abc", "2h", 0);
        fails("", "h", 0);
        goes("abc", "l9h", 0);
        fails("abc", "$l", 2);
        fails("a", "l", 0);
        fails("", "l", 0);
        goes("abc", "9l", 2);
        goes("abc", "l9l", 2);
        Probe.after("abc", "$dl", "ab", 1);
        Probe.after("abc", "ld9l", "a", 0);
        Probe.after("abc", "$d9h", "c", 0);
        fails("abc", "j", 0);
        fails("abc", "k", 0);
        fails("a\nb\nc", "j2j", 100);
        fails("a\nb\nc", "j2k", 100);
        goes("a\nb\nc", "2j", 200);
        goes("a\nb\nc", "G2k", 0);
        goes("", "0", 0);
        goes("", "^", 0);
        goes("abc", "0", 0);
        goes("   ", "^", 2);
        goes(" ", "^", 0);
        goes("   a", "^", 3);
        for (String operator : OPERATORS) {
            fails("ab\n", operator + "h", 0);
            fails("\nab", operator + "l", 0);
            fails("ab\ncd", operator + "2j", 0);
            fails("ab\ncd", operator + "k", 0);
            fails("ab\ncd", operator + "0", 0);
            fails("ab\ncd", operator + "^", 0);
        }
    }

    /** "It fails without that line, and with an operator, as do C and D, if its span would hold nothing". */
    private static void endOfLine() {
        goes("ab\ncd", "2$", 101);
        fails("ab\ncd", "3$", 0);
        fails("ab\ncd", "j2$", 100);
        goes("", "$", 0);
        goes("\nab", "$", 0);
        goes("ab\n", "2$", 100);
        for (String operator : OPERATORS) {
            fails("\nab\n", operator + "$", 0);
            fails("\nab\n", operator + "1$", 0);
            fails("\nab\n", operator + "4$", 0);
        }
        fails("\nab", "D", 0);
        fails("\nab", "C", 0);
        fails("\nab", "3D", 0);
        fails("\nab", "3C", 0);
        Probe.after("\n\nab", "d2$", "\nab", 0);
        Probe.after("\n\nab", "2D", "\nab", 0);
        Probe.after("\nab\nc", "2C", "\nc", 0);
        Probe.after("ab\n", "lc2$", "a", 1);
        Probe.due("only a line end", Probe.register(Probe.after("\n\nab", "y2$", "\n\nab", 0), '0'), "1:\n");
        Probe.due("a fold of both", Probe.after("\n\nab", "zf2$", "\n\nab", 0).foldOf(1), 1);
    }

    /** w, b and e: as often as it goes, where they fail, and how far operators go. */
    private static void words() {
        fails("ab cd", "$w", 4);
        fails("ab  ", "$w", 3);
        fails("", "w", 0);
        fails("ab\n", "jw", 100);
        goes("ab cd", "w9w", 4);
        goes("ab cd", "9w", 4);
        goes("ab  ", "w", 3);
        goes("ab\n\n\ncd", "4w", 301);
        goes("ab\n\n\ncd", "3w", 300);
        goes("ab\n  \ncd", "w", 200);
        fails("ab cd", "b", 0);
        fails("  ab", "b", 0);
        fails("", "b", 0);
        goes("  ab", "2lb", 0);
        goes("ab cd", "$9b", 0);
        goes("\n\nab", "Gbb", 0);
        fails("ab cd", "$e", 4);
        fails("ab cd", "3e", 0);
        fails("ab  \n\n ", "le", 1);
        fails("", "e", 0);
        goes("ab\n\ncd", "ee", 201);
        for (String operator : OPERATORS) {
            fails("ab\n", "j" + operator + "w", 100);
            fails("\nab", operator + "w", 0);
            fails("\n\nab", operator + "w", 0);
            fails("ab", operator + "b", 0);
            fails("ab", operator + "2e", 0);
        }
        // without a next one to the length of the last line, be it another one
        Probe.after("ab cd", "wdw", "ab ", 2);
        Probe.after("ab cd", "d9w", "", 0);
        Probe.after("ab\n  ", "dw", "", 0);
        Probe.after("ab\n  \n ", "ldw", "a", 0);
        // if the last time leads to another line, to the length of the line ahead of that
        Probe.after("ab\n  \ncd", "dw", "\ncd", 0);
        Probe.after("ab\ncd", "dw", "\ncd", 0);
        Probe.after("ab\n\ncd", "dw", "\n\ncd", 0);
        Probe.after("ab\n\ncd", "d2w", "\n\ncd", 0);
        Probe.after("ab\ncd ef", "d2w", "ef", 0);
        Probe.after("ab\ncd\nef", "d2w", "\nef", 0);
        // the beginning of a line is none of the span by which it ends
        Probe.after("ab cd\nef", "jdb", "ab \nef", 2);
    }

    /** f, t, F and T: the n-th sign, none of them, and no way. */
    private static void signsOfLine() {
        fails("axbx", "3fx", 0);
        fails("axbx", "fq", 0);
        fails("xab", "fx", 0);
        fails("abx", "$fx", 2);
        fails("axb", "Fx", 0);
        fails("a\nx", "fx", 0);
        fails("", "fx", 0);
        goes("axbx", "2fx", 3);
        goes("axb", "tx", 0);
        goes("axb", "$Tx", 2);
        fails("axb", "2tx", 0);
        fails("axb", "$2Tx", 2);
        fails("axb", "$tb", 2);
        Probe.after("axb", "dtx", "xb", 0);
        fails("axb", "$dTx", 2);
        fails("axb", "$cTx", 2);
        fails("axb", ";", 0);
        fails("axb", ",", 0);
        fails("axb", "2d;", 0);
        // of the last of these whose command did not fail
        goes("axbxq", "fxfz;", 3, 1);
        goes("axbxq", "fxdFz;", 3, 1);
        goes("axbxq", "fx,", 1, 1);
        goes("axbxq", "fx;;", 3, 1);
    }

    /** G and gg: "at most the last one". */
    private static void lines() {
        goes("a\n b\nc", "G", 200);
        goes("a\n b\nc", "99G", 200);
        goes("a\n b\nc", "4G", 200);
        goes("a\n b\nc", "3G", 200);
        goes("a\n b\nc", "2G", 101);
        goes("a\n b\nc", "1G", 0);
        goes("a\n b\nc", "Ggg", 0);
        goes("a\n b\nc", "9gg", 200);
        goes("a\n b\nc", "2gg", 101);
        goes("", "G", 0);
        goes("", "gg", 0);
        Probe.after("a\nb\nc", "d99G", "", 0);
        Probe.after("a\nb\nc", "Gd99gg", "a\nb", 100);
        Probe.after("a\nb\nc", "2d2G", "", 0);
        Probe.after("a\nb\nc\nd", "2dG", "c\nd", 0);
    }

    /** } and {: the first one of a run of empty lines that comes, and the ends of the text. */
    private static void emptyLines() {
        String text = "ab\n\n\ncd\n\n\nef";
        goes(text, "}", 100);
        goes(text, "}}", 400);
        goes(text, "2}", 400);
        goes(text, "3}", 601);
        goes(text, "99}", 601);
        fails(text, "G$}", 601);
        goes(text, "2j}", 400);
        goes(text, "G{", 500);
        goes(text, "G2{", 200);
        goes(text, "G99{", 0);
        fails(text, "{", 0);
        goes(text, "j{", 0);
        goes(text, "l{", 0);
        fails("", "}", 0);
        fails("", "{", 0);
        fails("ab\n", "j}", 100);
        goes("ab\n\n", "2j{", 0);
        goes("\nab", "j{", 0);
        for (String operator : OPERATORS) {
            fails("ab\n", "j" + operator + "}", 100);
            fails("\nab", operator + "{", 0);
        }
        Probe.after("ab\ncd", "d}", "d", 0);
    }

    /** "It fails without", both without a bracket and without one that matches. */
    private static void brackets() {
        fails("abc", "%", 0);
        fails("", "%", 0);
        fails("(a)b", "$%", 3);
        fails("(a", "%", 0);
        fails("a)", "%", 0);
        fails("(a]", "%", 0);
        goes("([)]", "%", 2);
        goes("([)]", "l%", 3);
        goes("a\n(\n)", "j%", 200);
        fails("a\n(\n)", "%", 0);
        Probe.after("x(a)y", "d%", "y", 0);
        fails("x(a", "d%", 0);
    }

    /** "They fail if the signs stand nowhere on the way, or there are none"; WRAP, and the place of the cursor itself. */
    private static void searches() {
        fails("ab", "/{ENTER}", 0);
        fails("ab", "n", 0);
        fails("ab", "N", 0);
        fails("ab", "/q{ENTER}", 0);
        fails("ab\nc", "/bc{ENTER}", 0);
        fails("ab", "/abc{ENTER}", 0);
        fails("", "/a{ENTER}", 0);
        fails(SIXTY, "/" + SIXTY + "x{ENTER}", 0);
        goes(SIXTY, "/" + SIXTY + "{ENTER}", 0);
        fails("ab", "d/a{ENTER}", 0);
        String text = "ab\nab\nb";
        for (int many = 1; many <= 4; many++) {
            goes(text, many + "/ab{ENTER}", many % 2 * 100);
            goes(text, "2/ab{ENTER}" + many + "N", many % 2 * 100);
        }
        goes("ab", "/ab{ENTER}", 0);
        goes("ab", "/ab{ENTER}N", 0);
        goes("abab", "/ab{ENTER}", 2);
        goes("abab", "2/ab{ENTER}", 0);
        ModalPad pad = Probe.pad(text);
        pad.setWrap(false);
        Probe.due("one place ahead of the end", Probe.type(pad, "/ab{ENTER}"), 0);
        Probe.due("its own place is not found", Probe.type(pad, "n") * 1000 + Probe.place(pad), 1100);
        Probe.due("nor behind the last line", Probe.type(pad, "n") * 1000 + Probe.place(pad), 1100);
        Probe.due("back", Probe.type(pad, "N") * 1000 + Probe.place(pad), 0);
        Probe.due("nor back", Probe.type(pad, "N") * 1000 + Probe.place(pad), 1000);
        Probe.due("not twice", Probe.type(pad, "2n") * 1000 + Probe.place(pad), 1000);
        pad.setWrap(true);
        Probe.due("with WRAP", Probe.type(pad, "N") * 1000 + Probe.place(pad), 100);
        Probe.due("twice", Probe.type(pad, "2n") * 1000 + Probe.place(pad), 100);
        // by a command that did not fail
        Probe.after("ab cb", "/b{ENTER}/q{ENTER}n", "ab cb", 4, 1);
        Probe.after("ab cb", "/b{ENTER}d/q{ENTER}n", "ab cb", 4, 1);
        Probe.after("ab cb", "/b{ENTER}/{ENTER}n", "ab cb", 4, 1);
        Probe.after("ab cb", "/b{ENTER}/c{ESC}n", "ab cb", 4);
    }

    /** "They fail without such a mark". */
    private static void marks() {
        for (String keys : new String[] {"'a", "`a", "'z", "`z", "d'a", "d`a", "y`a", "zf'a"}) {
            fails("ab", keys, 0);
        }
        goes("ab\n cd", "j$magg'a", 101);
        goes("ab\n cd", "j$magg`a", 102);
        Probe.after("ab\ncd", "jmadd'a", "ab", 0, 1);
        Probe.after("ab\ncd", "jmadd`a", "ab", 0, 1);
        goes("ab", "mzl`z", 0);
    }

    /** "A span from a place to itself, that not included, fails", and what ends in column 0 of a later line. */
    private static void spans() {
        for (String operator : OPERATORS) {
            fails("ab cd", operator + "0", 0);
            fails("ab cd", "w" + operator + "T ", 3);
            fails("ab cd", "lma" + operator + "`a", 1);
            fails("ab", operator + "/a{ENTER}", 0);
            fails("\n\nab", "j" + operator + "{", 100);
            fails("\nab\n", operator + "/ab{ENTER}", 0);
        }
        Probe.after("ab\n\ncd", "d/cd{ENTER}", "\ncd", 0);
        Probe.after("ab\ncd\nef", "ld/ef{ENTER}", "a\nef", 0);
        Probe.after("ab\ncd", "ld/d{ENTER}", "ad", 1);
        Probe.after("ab\ncd\nef", ">/ef{ENTER}", "  ab\n  cd\nef", 2);
        Probe.after("ab\ncd", ">/cd{ENTER}", "  ab\ncd", 2);
        Probe.after("ab\ncd", ">/d{ENTER}", "  ab\n  cd", 2);
        fails("ab\ncd", "zf/cd{ENTER}", 0);
        Probe.due("two lines", Probe.after("ab\ncd", "zf/d{ENTER}", "ab\ncd", 0).foldOf(1), 1);
    }

    /** "Both fail on an empty line, or if there are too few runs". */
    private static void wordObjects() {
        for (String operator : OPERATORS) {
            fails("\nab", operator + "iw", 0);
            fails("\nab", operator + "aw", 0);
            fails("a b\nc", operator + "4iw", 0);
            fails("a b\nc", operator + "4aw", 0);
            fails("a b\nc", "2" + operator + "2iw", 0);
            fails("a b\nc", operator + "i\"", 0);
            fails("a(\nc", operator + "a(", 0);
        }
        Probe.after("a b\nc", "d3iw", "\nc", 0);
        Probe.after("a b\nc", "3daw", "\nc", 0);
        Probe.after("a", "daw", "", 0);
        Probe.after(" a", "ldaw", "", 0);
        Probe.after(" ", "diw", "", 0);
        Probe.after("a  b", "ldaw", "ab", 1);
        Probe.after("a,, b", "ldaw", "ab", 1);
        Probe.after("a b  ", "wdaw", "a ", 1);
    }

    /** Quotes, brackets and runs of lines: none, empty ones, the first and the last. */
    private static void otherObjects() {
        for (String quotes : new String[] {"i\"", "a\""}) {
            fails("ab", "d" + quotes, 0);
            fails("a\"b", "d" + quotes, 0);
            fails("\"a\" b", "$d" + quotes, 4);
            fails("\"a\" \"b", "$d" + quotes, 5);
            fails("", "d" + quotes, 0);
        }
        Probe.after("\"a\"", "$di\"", "\"\"", 1);
        Probe.after("\"a\"b", "9da\"", "b", 0);
        fails("\"\"", "di\"", 0);
        fails("\"\"", "yi\"", 0);
        Probe.after("\"\"", "da\"", "", 0);
        for (String name : new String[] {"(", "[", "{"}) {
            String close = name.equals("(") ? ")" : name.equals("[") ? "]" : "}";
            fails("a" + name + "b" + close, "di" + name, 0);
            fails("a" + name + "b" + close + "c", "$da" + name, 4);
            fails("a" + name + "b", "ldi" + name, 1);
            fails("a" + close + "b", "ldi" + name, 1);
            fails("a" + name + close, "ldi" + name, 1);
            fails("a" + name + close, "lg~i" + name, 1);
            fails("a" + name + "b" + close, "ld2i" + name, 1);
            Probe.after("a" + name + close, "lda" + name, "a", 0);
            Probe.after("a" + name + "\n" + close, "ldi" + name, "a" + name + close, 2);
            ModalPad pad = Probe.after("a" + name + close, "yll\"bci" + name + "x{ESC}",
                "a" + name + "x" + close, 2);
            Probe.due("c of an empty one writes no register", Probe.register(pad, '"') + Probe.register(pad, 'b'), "1:a0:");
        }
        Probe.after("\"\"", "ci\"x{ESC}", "\"x\"", 1);
        Probe.after("a\n\nb", "dap", "b", 0);
        Probe.after("a\n\nb", "Gdap", "a", 0);
        Probe.after("a\nb", "dap", "", 0);
        Probe.after("", "dip", "", 0);
        Probe.after("", "dap", "", 0);
        Probe.after("a\n\nb", "d99ip", "\nb", 0);
        Probe.after("  \n\nb", "dip", "\nb", 0);
        fails("a", "zfip", 0);
        fails("a", "zfap", 0);
    }
}
