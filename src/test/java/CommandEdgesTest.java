/** The edges that the document names for operators, registers, further commands and INSERT, sentence by sentence. */
public final class CommandEdgesTest {
    private static final String FORTY = "\n".repeat(39), SIXTY = "x".repeat(60);

    public static void main(String[] args) {
        takingOut();
        changing();
        yanking();
        shifting();
        swappingAndFolding();
        registersTold();
        numberedRegisters();
        puttingSigns();
        puttingLines();
        puttingRectangles();
        joining();
        replacing();
        beginningInsert();
        statesThatAreNotThere();
        foldsThatAreNotThere();
        insertKeys();
        endOfInsert();
        Probe.end();
    }

    /** The last command of the keys fails, and nothing changes by it. */
    private static ModalPad fails(String text, String keys, int wantPlace) {
        ModalPad pad = Probe.after(text, keys, text, wantPlace, 1);
        Probe.due("NORMAL behind " + keys, pad.mode() * 10 + pad.given(), 0);
        Probe.due("states behind " + keys, pad.states(), 1);
        return pad;
    }

    private static void holds(ModalPad pad, String names, String want) {
        for (char name : names.toCharArray()) {
            Probe.due("register " + name, Probe.register(pad, name), want);
        }
    }

    /** d: "at the line that stands there then, or the last one"; "when no line is left, there is one empty line". */
    private static void takingOut() {
        Probe.after("a\n b\nc", "jdd", "a\nc", 100);
        Probe.after("a\n b\nc", "dd", " b\nc", 1);
        Probe.after(" a\nb", "jdd", " a", 1);
        Probe.after("\n", "dd", "", 0);
        ModalPad pad = Probe.after("a\nb", "majmbggzfjzodG", "", 0);
        Probe.due("what stood there is gone", pad.mark('a') + pad.mark('b') + pad.folds(), -2);
        holds(pad, "1\"", "2:a\nb\n");
        pad = Probe.after("", "madd", "", 0);
        Probe.due("also with the only line, which is empty", pad.mark('a'), ModalPad.NONE);
        Probe.due("which is no other text", pad.states(), 1);
        holds(pad, "1", "2:\n");
        // signs: the cursor is at the beginning, or on the last sign
        Probe.after("abc", "$x", "ab", 1);
        Probe.after("abc\ndef", "lvjd", "af", 1);
        Probe.after("abc\ndef", "lvj$d", "a", 0);
    }

    /** c: "lines become one empty line (the first of them stays, emptied)". */
    private static void changing() {
        ModalPad pad = Probe.after("a\nb\nc", "majmbggcjx{ESC}", "x\nc", 0);
        Probe.due("the first one stays", pad.mark('a') * 10 + pad.mark('b'), -1);
        pad = Probe.after("a\nb", "cG{ESC}", "", 0);
        Probe.due("of all lines, too", pad.states(), 2);
        pad = Probe.after("", "cc{ESC}", "", 0);
        Probe.due("nothing is no other text", pad.states(), 1);
        pad = Probe.after("ab", "$cl", "a", 1);
        Probe.due("INSERT behind the last sign", pad.mode(), ModalPad.INSERT);
        pad = Probe.after("ab\n", "jcc", "ab\n", 100);
        Probe.due("INSERT on an empty line", pad.mode(), ModalPad.INSERT);
    }

    /** y: "of lines: to the first of them, the column stays as near as it can". */
    private static void yanking() {
        Probe.after("abc\na\nabc", "2j$yk", "abc\na\nabc", 100);
        Probe.after("abc\n\nabc", "2j$yk", "abc\n\nabc", 100);
        Probe.after("abc\na\nabc", "2j$y2k", "abc\na\nabc", 2);
        Probe.after("abc", "$yb", "abc", 0);
        Probe.after("abc", "$yy", "abc", 2);
        ModalPad pad = Probe.after("", "yy", "", 0);
        holds(pad, "0\"", "2:\n");
    }

    /** > and <: lines that are empty, and how many blanks there are. */
    private static void shifting() {
        Probe.after("\na\n ", ">G", "\n  a\n   ", 0);
        Probe.due("no change", Probe.after("\n", ">j", "\n", 0).states(), 1);
        Probe.after("a\n b\n  c\n   d\n\n ", "<G", "a\nb\nc\n d\n\n", 0);
        Probe.due("no change", Probe.after("a\n\nb", "<G", "a\n\nb", 0).states(), 1);
        Probe.after("  ", "<<", "", 0);
        fails(SIXTY, ">>", 0);
        Probe.after(" " + SIXTY.substring(1), "<<", SIXTY.substring(1), 0);
    }

    private static void swappingAndFolding() {
        Probe.due("no change", Probe.after("1_ !", "g~~", "1_ !", 0).states(), 1);
        Probe.after("", "g~~", "", 0);
        fails("", "g~l", 0);
        fails("", "~", 0);
        Probe.after("`az{@AZ[", "g~~", "`AZ{@az[", 0);
        fails("a\nb", "zfz", 0);
        fails("a\nb", "zfl", 0);
        fails("a", "zf$", 0);
        fails("", "zfz", 0);
        Probe.due("two lines", Probe.after("a\nb", "zf2z", "a\nb", 0).foldOf(1), 1);
    }

    /** "A to Z are a to z, put behind what is there", "with _ nothing is written at all". */
    private static void registersTold() {
        ModalPad pad = Probe.pad("ab\ncd");
        Probe.type(pad, "\"Zyl\"Zyl");
        holds(pad, "z", "1:aa");
        Probe.type(pad, "\"Zyy");
        holds(pad, "z", "2:aa\nab\n");
        holds(pad, "\"", "2:ab\n");
        holds(pad, "01-", "0:");
        Probe.type(pad, "\"_yy\"_x\"_dd\"_cl{ESC}");
        holds(pad, "\"", "2:ab\n");
        holds(pad, "0123456789-a", "0:");
        Probe.due("the text changes by them", Probe.text(pad), "d");
        Probe.due("no failure", pad.failures(), 0);
        for (String keys : new String[] {"p", "P", "\"ap", "\"Ap", "\"0P", "\"9p", "\"-p", "\"_p", "\"\"p", "99p"}) {
            fails("ab", keys, 0);
        }
        for (char name : "azAZ09-_\"".toCharArray()) {
            Probe.due("it can be told: " + name, Probe.type(Probe.pad("ab"), "\"" + name + "yl"), 0);
        }
        for (char name : " !#,./:;@[`{~".toCharArray()) {
            Probe.due("it can not: " + name, Probe.type(Probe.pad("ab"), "\"" + name), 1);
        }
    }

    /** "To 1, what was in 1 to 2, and so on to 9; otherwise to -". */
    private static void numberedRegisters() {
        ModalPad pad = Probe.pad("a\nb\nc\nd\ne\nf\ng\nh\ni\nj\nk l");
        Probe.type(pad, "dddddddddddddddddd");
        holds(pad, "9", "2:a\n");
        holds(pad, "1", "2:i\n");
        Probe.type(pad, "dd");
        holds(pad, "9", "2:b\n");
        holds(pad, "0-", "0:");
        Probe.type(pad, "\"9yl\"5ylx");
        holds(pad, "9", "1:k");
        holds(pad, "1", "2:j\n");
        holds(pad, "-", "1:k");
        Probe.type(pad, "dd");
        holds(pad, "9", "2:c\n");
        holds(pad, "6", "1:k");
        Probe.due("no failure", pad.failures(), 0);
        // by signs over several lines, and by rectangles of several lines
        pad = Probe.pad("ab\ncd\nef");
        Probe.type(pad, "lvjd");
        holds(pad, "1", "1:b\ncd");
        Probe.type(pad, "{RECT}jd");
        holds(pad, "1", "3:a\ne\n");
        holds(pad, "-", "0:");
        Probe.type(pad, "j{RECT}d");
        holds(pad, "-", "3:f\n");
    }

    /** p and P of signs: on an empty line, at the ends of a line, so often that it is just full. */
    private static void puttingSigns() {
        Probe.after("a\n", "yljp", "a\na", 100);
        Probe.after("a\n", "yljP", "a\na", 100);
        Probe.after("ab", "yl$p", "aba", 2);
        Probe.after("ab", "ylP", "aab", 0);
        Probe.after("a", "yl59p", SIXTY.replace('x', 'a'), 59);
        fails("a", "yl60p", 0);
        fails("a", "yl99p", 0);
        // with line ends, 40 lines at most
        Probe.after("a\nb", "vjy38P", "a\nb".repeat(38) + "a\nb", 0);
        fails("a\nb", "vjy39P", 0);
        // a line end alone, and one ahead of signs
        Probe.after("f(\n)\nab", "lyi(Gp", "f(\n)\na\nb", 200);
        Probe.after("f(\n)\nab", "lyi(G2P", "f(\n)\n\n\nab", 200);
        Probe.after("f(\nx)\nab", "lyi(Gp", "f(\nx)\na\nxb", 200);
    }

    private static void puttingLines() {
        Probe.after("", "yyp", "\n", 100);
        Probe.after("", "yyP", "\n", 0);
        Probe.after(" a", "yy39p", (" a\n").repeat(39) + " a", 101);
        fails(" a", "yy40p", 0);
        fails(" a", "yy99p", 0);
        Probe.after(" a\nb", "yyjP", " a\n a\nb", 101);
        Probe.after(SIXTY, "yyp", SIXTY + "\n" + SIXTY, 100);
    }

    /** "Shorter lines filled up to the column, and lines put below the last one if they are missing". */
    private static void puttingRectangles() {
        Probe.after("ab\ncd\nefgh\n\ni", "{RECT}jly2j$p", "ab\ncd\nefghab\n    cd\ni", 204);
        Probe.after("ab\ncd", "{RECT}jlyj$p", "ab\ncdab\n  cd", 102);
        Probe.after("ab\ncd", "{RECT}jlyjP", "ab\nabcd\ncd", 100);
        Probe.after("ab\nc", "{RECT}jyP", "aab\ncc", 0);
        Probe.after("abc\nd\nefg", "$h{RECT}jjly", "abc\nd\nefg", 1);
        Probe.after("abc\nd\nefg", "$h{RECT}2j$yG$p", "abc\nd\nefgbc\n     \n   fg", 203);
        String wide = "y".repeat(57);
        Probe.after("ab\n" + wide + "x", "{RECT}lyj0P", "ab\nab" + wide + "x", 100);
        fails("ab\n" + wide + "xx", "{RECT}lyj0P", 100);
        Probe.after("ab\n" + wide + "x", "{RECT}lyj$p", "ab\n" + wide + "xab", 158);
        fails("ab\n" + wide + "xx", "{RECT}lyj$p", 158);
        Probe.after("a\n", "{RECT}y59P", "a".repeat(60) + "\n", 0);
        fails("a\n", "{RECT}y60P", 0);
        Probe.after("a\n", "{RECT}yj60P", "a\n" + "a".repeat(60), 100);
        fails("a\n", "{RECT}yj61P", 100);
        fails("a\nb" + FORTY.substring(1), "{RECT}jyGp", 3900);
        Probe.after("a\nb" + FORTY.substring(1), "{RECT}jyGkp", "a\nb" + FORTY.substring(1, 38) + "a\nb", 3800);
    }

    /** J: "2 at least, which have to be there", "with a blank between, if neither is empty". */
    private static void joining() {
        fails("a", "J", 0);
        fails("a\nb", "jJ", 100);
        fails("a\nb", "3J", 0);
        fails("a\nb", "99J", 0);
        Probe.after("a\nb\nc", "1J", "a b\nc", 1);
        Probe.after("a\nb\nc", "3J", "a b c", 3);
        Probe.after("\n\n", "3J", "", 0);
        Probe.after("a\n   ", "J", "a", 0);
        Probe.after("\n   ", "J", "", 0);
        Probe.after("a\n\nb", "3J", "a b", 1);
        Probe.after("a\nb\n", "3J", "a b", 2);
        Probe.after("\n  a", "J", "a", 0);
        Probe.after(SIXTY + "\n    ", "J", SIXTY, 59);
        fails(SIXTY.substring(1) + "\n   y", "J", 0);
        Probe.after("a\n" + " ".repeat(2) + "b".repeat(58), "J", "a " + "b".repeat(58), 1);
    }

    private static void replacing() {
        fails("ab", "3rx", 0);
        fails("ab", "l2rx", 1);
        fails("", "rx", 0);
        Probe.after("ab", "2rx", "xx", 1);
        Probe.after("ab", "$rx", "ax", 1);
        Probe.due("no change", Probe.after("aa", "2ra", "aa", 1).states(), 1);
        Probe.after("ab", "99~", "AB", 1);
        Probe.after("ab", "~", "Ab", 1);
        Probe.after("ab", "$~", "aB", 1);
        fails("", "3~", 0);
    }

    /** i, a, I, A, o and O on empty lines, on lines of blanks, on full ones, and with all lines that can be. */
    private static void beginningInsert() {
        for (String key : new String[] {"i", "a", "I", "A"}) {
            Probe.after("", key + "x{ESC}", "x", 0);
            ModalPad pad = Probe.after(SIXTY, key + "y", SIXTY, key.equals("A") ? 60 : key.equals("a") ? 1 : 0);
            Probe.due("INSERT in a full line", pad.mode() * 10 + pad.failures(), 10);
        }
        Probe.after("   ", "Ix{ESC}", "   x", 3);
        Probe.after("  a", "Ix{ESC}", "  xa", 2);
        Probe.after("ab", "$ax{ESC}", "abx", 2);
        Probe.after("", "ox{ESC}", "\nx", 100);
        Probe.after("", "Ox{ESC}", "x\n", 0);
        fails(FORTY, "Go", 3900);
        fails(FORTY, "GO", 3900);
        Probe.after(FORTY.substring(1), "O{ESC}", FORTY, 0);
    }

    /** "They fail if there is no such state". */
    private static void statesThatAreNotThere() {
        for (String keys : new String[] {"u", "2u", "99u", "{REDO}", "g-", "g+", "9g-", "9g+"}) {
            fails("ab", keys, 0);
        }
        for (String keys : new String[] {"2u", "3u", "{REDO}", "g+", "2g-", "99g-"}) {
            ModalPad pad = Probe.after("ab", "x" + keys, "b", 0, 1);
            Probe.due("the state behind " + keys, pad.state() * 10 + pad.states(), 12);
        }
        for (String keys : new String[] {"u{REDO}", "g-g+", "ug+", "g-{REDO}"}) {
            Probe.due("there and back by " + keys, Probe.after("ab", "x" + keys, "b", 0).state(), 1);
        }
        for (String keys : new String[] {"u2{REDO}", "u2g+"}) {
            Probe.due("not two by " + keys, Probe.after("ab", "x" + keys, "ab", 0, 1).state(), 0);
        }
    }

    /** "They fail if there is none (zo: none closed, zc: none open)". */
    private static void foldsThatAreNotThere() {
        for (String keys : new String[] {"zo", "zc", "zd"}) {
            fails("a\nb\nc\nd", keys, 0);
        }
        for (String keys : new String[] {"zo", "zc", "zd"}) {
            fails("a\nb\nc\nd", "zfj2j" + keys, 300);
        }
        fails("a\nb\nc", "zfjzc", 0);
        fails("a\nb\nc", "zfjzozo", 0);
        fails("a\nb\nc", "zfjzdzd", 0);
    }

    /** "BACK takes away the sign ahead of it, if that was put in this insertion"; "what cannot be done is passed over". */
    private static void insertKeys() {
        Probe.after("ab", "li{BACK}{BACK}x{ESC}", "axb", 1);
        Probe.after("ab", "lixy{BACK}{BACK}{BACK}{ESC}", "ab", 0);
        Probe.after("ab", "lix{ENTER}{BACK}y{ESC}", "ax\nyb", 100);
        Probe.after("ab", "A{ESC}A{BACK}{ESC}", "ab", 1);
        Probe.after("", "i{BACK}{ESC}", "", 0);
        Probe.after(SIXTY.substring(1), "iyz{ESC}", "y" + SIXTY.substring(1), 0);
        Probe.after(SIXTY.substring(1), "iyz{BACK}{BACK}{ESC}", SIXTY.substring(1), 0);
        Probe.after(FORTY, "i{ENTER}{ESC}", FORTY, 0);
        Probe.after(FORTY.substring(1), "i{ENTER}{ENTER}x{ESC}", "\nx" + FORTY.substring(1), 100);
        Probe.after("ab", "li{REDO}{RECT}{OLDER}{NEWER}{ESC}", "ab", 0);
        ModalPad pad = Probe.after("ab", "i{BACK}{ESC}", "ab", 0);
        Probe.due("no failure, no state", pad.failures() * 10 + pad.states(), 1);
    }

    /** ESC: "all of it or, if the text would get too long, none of these"; "one column to the left, if it is not in column 0". */
    private static void endOfInsert() {
        Probe.after("ab", "i{ESC}", "ab", 0);
        Probe.after("ab", "li{ESC}", "ab", 0);
        Probe.after("ab", "a{ESC}", "ab", 0);
        Probe.after("", "9a{ESC}", "", 0);
        Probe.after("", "60ix{ESC}", SIXTY, 59);
        Probe.after("", "61ix{ESC}", "x", 0);
        Probe.after("", "99ix{ESC}", "x", 0);
        Probe.after("a", "30ixy{ESC}", "xya", 1);
        Probe.after("", "30ixy{ESC}", "xy".repeat(30), 59);
        Probe.after("", "39i{ENTER}{ESC}", FORTY, 3900);
        Probe.after("", "40i{ENTER}{ESC}", "\n", 100);
        Probe.after("", "39ix{ENTER}{ESC}", "x\n".repeat(39), 3900);
        Probe.after("", "20ix{ENTER}y{ENTER}{ESC}", "x\ny\n", 200);
        Probe.after("", "19ix{ENTER}y{ENTER}{ESC}", "x\ny\n".repeat(19), 3800);
        Probe.after("", "3ox{ESC}", "\nx", 100);
        Probe.after("", "3Ox{ESC}", "x\n", 0);
        Probe.after("abc", "2clx{ESC}", "xc", 0);
        Probe.after("abc", "2sx{ESC}", "xc", 0);
    }
}
