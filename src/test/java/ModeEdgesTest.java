/** The edges that the document names for selections, changes, maps, playing and command lines, sentence by sentence. */
public final class ModeEdgesTest {
    private static final String SIXTY = "x".repeat(60);

    public static void main(String[] args) {
        oneSign();
        emptySelections();
        selectedObjects();
        joinedSelections();
        whatFailsLeavesTheSelection();
        theHundredthState();
        theLastChange();
        countsOfTheLastChange();
        keysThatWait();
        fiveTicks();
        twoHundredKeys();
        hundredPlayedKeys();
        twentyWithinOneAnother();
        eightHundredKeys();
        signsOfCommandLines();
        addresses();
        linesThatAreNotThere();
        movedAndSorted();
        substituted();
        keysAndGlobal();
        Probe.end();
    }

    private static ModalPad fails(String text, String keys, int wantPlace, int wantMode) {
        ModalPad pad = Probe.after(text, keys, text, wantPlace, 1);
        Probe.due("mode behind " + keys, pad.mode() * 10 + pad.given(), wantMode * 10);
        Probe.due("states behind " + keys, pad.states(), 1);
        return pad;
    }

    private static void map(ModalPad pad, String from, String to, boolean isFinal) {
        pad.map(ModalPad.NORMAL, Probe.packed(from), Probe.packed(to), isFinal);
    }

    /** "From where it began to the cursor, both included". */
    private static void oneSign() {
        for (String begin : new String[] {"v", "{RECT}"}) {
            Probe.after("abc", "l" + begin + "d", "ac", 1);
            Probe.after("abc", "$" + begin + "d", "ab", 1);
            Probe.after("abc", "l" + begin + "~", "aBc", 1);
            Probe.after("abc", "l" + begin + "rx", "axc", 1);
            Probe.after("abc", "l" + begin + begin + "x", "ac", 1);
            Probe.after("abc", "l" + begin + "od", "ac", 1);
        }
        Probe.after("abc\nde", "lVd", "de", 0);
        Probe.after("abc", "Vd", "", 0);
        Probe.after("abc\nde", "v$jd", "", 0);
        Probe.after("abc\nde", "{RECT}$jd", "c\n", 0);
        Probe.after("abc\n\nde", "$v2jd", "ab", 1);
        Probe.after("abc\n\nde", "$vjd", "ab\nde", 1);
    }

    /** "r of a selection without a sign fails", "and these and c by signs of an empty line alone". */
    private static void emptySelections() {
        for (String keys : new String[] {"d", "x", "y", "c", "s", "g~", "~", "rx"}) {
            fails("", "v" + keys, 0, ModalPad.SIGNS);
            fails("a\n", "jv" + keys, 100, ModalPad.SIGNS);
        }
        for (String keys : new String[] {"d", "x", "y", "g~", "~", "rx"}) {
            fails("\n\nabc", "{RECT}j" + keys, 100, ModalPad.RECTS);
        }
        // a rectangle is as far as lines reach
        ModalPad pad = Probe.after("abc\nd\nabc", "$h{RECT}jjly", "abc\nd\nabc", 1);
        Probe.due("rows", Probe.register(pad, '0'), "3:bc\n\nbc\n");
        fails("\n\nabc", "{RECT}jc", 100, ModalPad.RECTS);
        fails("abc", "{RECT}s", 0, ModalPad.RECTS);
        fails("\n\nabc", "vjrx", 100, ModalPad.SIGNS);
        fails("\n\nabc", "Vjrx", 100, ModalPad.LINES);
        // but line ends, and empty lines, are a span
        Probe.after("\n\nabc", "vjd", "\nabc", 0);
        Probe.after("\n\nabc", "vjcx{ESC}", "x\nabc", 0);
        Probe.after("\n\nabc", "vj~", "\n\nabc", 0);
        Probe.after("\n\nabc", "Vjd", "abc", 0);
        Probe.after("\n\nabc", "Vjcx{ESC}", "x\nabc", 0);
        Probe.after("\n\nabc", "Vj~", "\n\nabc", 0);
        Probe.after("\n\nabc", "{RECT}j>", "\n\nabc", 0);
        Probe.after("\n\nabc", "VGrx", "\n\nxxx", 0);
        Probe.due("y", Probe.register(Probe.after("\n\nabc", "vjy", "\n\nabc", 0), '0'), "1:\n");
    }

    private static void selectedObjects() {
        fails("", "viw", 0, ModalPad.SIGNS);
        fails("a b", "v4iw", 0, ModalPad.SIGNS);
        fails("a b", "Vi\"", 0, ModalPad.LINES);
        fails("\"\"", "{RECT}i\"", 0, ModalPad.RECTS);
        fails("()", "vi(", 0, ModalPad.SIGNS);
        fails("(a)", "v2i(", 0, ModalPad.SIGNS);
        ModalPad pad = Probe.after("a b\nc", "Viw", "a b\nc", 0);
        Probe.due("iw selects signs", pad.mode(), ModalPad.SIGNS);
        pad = Probe.after("a b\nc", "{RECT}ip", "a b\nc", 100);
        Probe.due("ip selects lines", pad.mode(), ModalPad.LINES);
        Probe.after("a b\n cc", "vip", "a b\n cc", 100);
        // its last sign, and ahead of column 0 of a line the last column of the line ahead
        Probe.after("(ab)", "lva(", "(ab)", 3);
        Probe.after("(ab\nc\n)", "vi(", "(ab\nc\n)", 100);
        Probe.after("(ab\n\n)", "vi(", "(ab\n\n)", 100);
        Probe.after("(\n)", "va(", "(\n)", 100);
    }

    /** "J joins its lines (2 at least)", "with one line alone joins it with the next one". */
    private static void joinedSelections() {
        for (String begin : new String[] {"v", "V", "{RECT}"}) {
            Probe.after("a\nb\nc", begin + "J", "a b\nc", 1);
            Probe.after("a\nb\nc", begin + "jJ", "a b\nc", 1);
            Probe.after("a\nb\nc", begin + "2jJ", "a b c", 3);
            Probe.after("a\nb\nc", "G" + begin + "kJ", "a\nb c", 101);
            int mode = begin.equals("v") ? ModalPad.SIGNS : begin.equals("V") ? ModalPad.LINES : ModalPad.RECTS;
            fails("a\nb\nc", "G" + begin + "J", 200, mode);
            fails("a", begin + "J", 0, mode);
            fails(SIXTY + "\nb", begin + "jJ", 100, mode);
        }
    }

    /** "A command that is none here fails; whatever fails leaves the selection." */
    private static void whatFailsLeavesTheSelection() {
        String[] keys = {"h", "99j", "fq", "/q{ENTER}", "n", "'z", "%", "p", "u", ".", "q", "@", ":", "m", "zo", "gm", "g-", "D",
            "{OLDER}", "{REDO}", "\"?", "ix", "{ENTER}", "zf"};
        for (String given : keys) {
            ModalPad pad = Probe.pad("abc\n");
            Probe.type(pad, "v");
            Probe.due("failures of " + given, Probe.type(pad, given), 1);
            Probe.due("the selection stays", pad.mode() * 10 + pad.given(), ModalPad.SIGNS * 10);
            Probe.type(pad, "ly");
            Probe.due("from where it began", Probe.register(pad, '0'), "1:ab");
        }
    }

    /** "With the 100th state, that at first counted, all but that one are forgotten, and it is the number 0." */
    private static void theHundredthState() {
        ModalPad pad = Probe.pad("a");
        for (int i = 1; i <= 98; i++) {
            Probe.type(pad, "~");
            Probe.due("the states", pad.states() * 100 + pad.state(), (i + 1) * 100 + i);
        }
        Probe.due("all 98 can be taken back", Probe.type(pad, "98u"), 0);
        Probe.due("state", pad.state() * 1000 + pad.states(), 99);
        Probe.due("no more", Probe.type(pad, "u"), 1);
        Probe.type(pad, "~");
        Probe.due("the 100th", pad.state() * 1000 + pad.states(), 1);
        Probe.due("u and g-", Probe.type(pad, "ug-g+{REDO}"), 4);
        Probe.type(pad, "~");
        Probe.due("and on", pad.state() * 1000 + pad.states() + pad.parent(1), 1002);
    }

    /** "It fails if there was none", and what is none. */
    private static void theLastChange() {
        for (String keys : new String[] {"", "yy", "vd", "vrx", "Vjd", ":s/a/b/{ENTER}", ":d{ENTER}", "ra", "i{ESC}", "ix{BACK}{ESC}",
            "ma", "j", "qaq"}) {
            ModalPad pad = Probe.pad("a\nb\nc");
            Probe.type(pad, keys);
            String text = Probe.text(pad);
            Probe.due(". behind " + keys, Probe.type(pad, "."), 1);
            Probe.due("nothing changes", Probe.text(pad), text);
        }
        Probe.after("abcd", "x3J.", "cd", 0, 1);
        Probe.after("abcd", "xu.", "bcd", 0);
        Probe.after("aabcd", "xra.", "bcd", 0);
        Probe.after("abcd", "xvlrz.", "zd", 0);
        Probe.after("abcdef", "x:s/b/zz/{ENTER}.", "zcdef", 0);
        Probe.after("abcdef", "qaxq@a.", "def", 0);
    }

    /** "That takes the place of the first count of the command", "1 to 8 become one more each time". */
    private static void countsOfTheLastChange() {
        Probe.after("abcdefgh", "3x2.", "fgh", 0);
        Probe.after("abcdefgh", "x99.", "", 0);
        Probe.after("abcdefgh", "\"a2x3.", "fgh", 0);
        Probe.after("a b c d e f g h", "2d3w1.", "h", 0);
        Probe.after("a b c d e f g h", "d2w3..", "", 0);
        ModalPad pad = Probe.pad("a");
        Probe.type(pad, "\"8ylaxy{ESC}hyl\"8p");
        Probe.type(pad, "\"9yl...");
        Probe.due("8, 9, 9, 9", pad.failures(), 0);
        pad = Probe.pad("ab");
        Probe.type(pad, "\"1yl\"1p.");
        Probe.due("2 is empty", pad.failures() * 10 + pad.length(0), 13);
        Probe.type(pad, "\"2yl.");
        Probe.due("as . has failed, it is 2 again", pad.failures() * 10 + pad.length(0), 14);
        Probe.due("then 3", Probe.type(pad, "."), 1);
        pad = Probe.pad("ab");
        Probe.type(pad, "\"0yl\"0p..\"-yl\"-p..");
        Probe.due("0 and - stay", pad.failures() * 10 + pad.length(0), 8);
    }

    /** Keys that wait: the beginning of a longer map, of none, and 4 keys at most. */
    private static void keysThatWait() {
        ModalPad pad = Probe.pad("abcdefgh");
        map(pad, "llll", "$", true);
        map(pad, "ll", "0", true);
        for (int i = 1; i <= 3; i++) {
            Probe.type(pad, "l");
            Probe.due("it waits", pad.waiting() * 10 + pad.taken(), i * 10);
        }
        Probe.type(pad, "l");
        Probe.due("four", pad.waiting() * 10 + pad.column(), 7);
        Probe.type(pad, "lllx");
        Probe.due("the longest map, and the rest is looked at anew", pad.waiting() + Probe.text(pad), "0acdefgh");
        Probe.type(pad, "ll");
        Probe.due("a map of which there is a longer one", pad.waiting(), 2);
        Probe.type(pad, "{ESC}");
        Probe.due("is taken", pad.waiting() * 10 + pad.column(), 0);
        map(pad, "l", "", false);
        Probe.type(pad, "l0");
        Probe.due("a map to no keys", pad.column() * 10 + pad.failures(), 0);
        // what waits is none of a command so far
        Probe.type(pad, "l");
        Probe.due("given", pad.given() * 10 + pad.waiting(), 1);
        Probe.type(pad, "{ESC}dl");
        Probe.due("within a command maps do not look", Probe.text(pad), "cdefgh");
        Probe.due("agrees", pad.agrees(), true);
    }

    /** "Behind 5 ticks without a key what waits is taken so, too, all of it". */
    private static void fiveTicks() {
        for (int[] ticks : new int[][] {{5}, {4, 1}, {1, 1, 1, 1, 1}, {100}, {3, 3}}) {
            ModalPad pad = Probe.pad("abcdefgh");
            map(pad, "lll", "$", true);
            map(pad, "l", "x", false);
            map(pad, "xx", "0", true);
            Probe.type(pad, "ll");
            for (int i = 0; i < ticks.length; i++) {
                Probe.due("it waits", pad.waiting(), 2);
                pad.tick(ticks[i]);
            }
            Probe.due("nothing waits", pad.waiting() + Probe.text(pad), "0cdefgh");
            Probe.due("agrees", pad.agrees(), true);
        }
    }

    /** "Since the key that was typed last 200 keys can come from maps", "a map by which there would be more is not gone by". */
    private static void twoHundredKeys() {
        for (int more = 0; more <= 1; more++) {
            // 24 times 8 keys, and then 8 or 9 by two maps
            ModalPad pad = Probe.pad("abc");
            map(pad, "K", "MMMMMMMM", false);
            map(pad, "M", "AAA", false);
            map(pad, "A", "~~~~~~~", true);
            // 8, 8 times 3, 24 times 7: 200
            map(pad, "~~", "~", true);
            Probe.due("8 + 24 + 168", Probe.type(pad, "K"), 0);
            Probe.due("taken", pad.taken(), 168);
            if (more == 1) {
                map(pad, "A", "~~~~~~~~", true);
                Probe.due("8 + 24 + 192", Probe.type(pad, "K"), 1);
                // 8, and as many of 3 + 3 * 8 as go: 7 times 27 is 189, and 3 more, but no 8 more
                Probe.due("taken", pad.taken(), 168 + 7 * 24);
                Probe.due("nothing waits", pad.waiting(), 0);
            }
            Probe.due("agrees", pad.agrees(), true);
        }
    }

    /** "One key that is taken can lead to 100 played keys". */
    private static void hundredPlayedKeys() {
        String text = "abc";
        ModalPad pad = Probe.pad(text);
        Probe.type(pad, "qal{ESC}q0");
        Probe.due("100", Probe.type(pad, "50@a"), 1);
        Probe.type(pad, "qal{ESC}hq0qblhq0");
        Probe.due("2 times 50", Probe.type(pad, "50@b"), 0);
        Probe.due("2 times 51", Probe.type(pad, "51@b"), 1);
        Probe.due("99 times 3", Probe.type(pad, "99@a"), 1);
        Probe.due("each key that is typed", Probe.type(pad, "50@b50@b"), 0);
        map(pad, "K", "50@b50@b", false);
        Probe.due("or comes from maps", Probe.type(pad, "K"), 0);
        // where the 101st one fails the mode stays
        pad = Probe.pad("ab");
        Probe.type(pad, "qa" + "lh".repeat(49) + "lvhd{ESC}{ESC}q");
        Probe.due("it was done once", Probe.text(pad), "");
        pad = Probe.pad("abcd");
        Probe.type(pad, "qa" + "lh".repeat(49) + "lvlh{ESC}q0@a");
        Probe.due("a selection goes on", pad.mode() * 100 + pad.column() * 10 + pad.failures(), ModalPad.SIGNS * 100 + 11);
        pad = Probe.pad("abcd");
        Probe.type(pad, "qa" + "lh".repeat(49) + "d20l{ESC}q0@a");
        Probe.due("what is given of a command is dropped", pad.given() * 10 + pad.failures(), 1);
        Probe.due("nothing was taken out by it", pad.length(0), 0);
    }

    /** "Keys can be played within the playing of others, 20 at most in one another". */
    private static void twentyWithinOneAnother() {
        ModalPad pad = Probe.pad("0123456789012345678901234567890");
        Probe.type(pad, "qalq0qblq0");
        // each register plays the one ahead of it: z plays y, and so on to a
        for (char name = 'b'; name <= 's'; name++) {
            Probe.type(pad, "q" + name + "@" + (char) (name - 1) + "q0");
        }
        Probe.due("19 within one another", Probe.type(pad, "@s") * 100 + pad.column(), 1);
        Probe.type(pad, "0qt@sq0");
        Probe.due("20 within one another", Probe.type(pad, "@t") * 100 + pad.column(), 1);
        Probe.type(pad, "0qu@tq");
        Probe.due("21 fail", pad.failures() * 100 + pad.column(), 1);
        Probe.type(pad, "0");
        Probe.due("21 fail", Probe.type(pad, "@u") * 100 + pad.column(), 100);
        Probe.due("n is one of them", Probe.type(pad, ":n@s{ENTER}") * 100 + pad.column(), 1);
        Probe.due("so it is the 21st", Probe.type(pad, ":n@t{ENTER}") * 100 + pad.column(), 100);
        Probe.due("g is none", Probe.type(pad, ":g/0/n@s{ENTER}") * 100 + pad.column(), 1);
        Probe.due("agrees", pad.agrees(), true);
    }

    /** "When 800 keys were done in all, each key that is taken from then on is passed over". */
    private static void eightHundredKeys() {
        ModalPad pad = Probe.pad("abc");
        for (int i = 0; i < 99; i++) {
            pad.keys(Probe.packed("lhlhlhlh"));
        }
        Probe.type(pad, "lhlhlh");
        Probe.due("798", pad.taken() * 10 + pad.column(), 7980);
        map(pad, "K", "ll0", false);
        Probe.type(pad, "K");
        Probe.due("the 801st one is passed over", pad.taken() * 10 + pad.column(), 8012);
        Probe.due("and all others", Probe.type(pad, "Qix:v\"{ESC}"), 0);
        Probe.due("taken", pad.taken() * 100 + pad.column() * 10 + pad.mode() + pad.given(), 80820);
        Probe.due("text", Probe.text(pad), "abc");
        Probe.due("agrees", pad.agrees(), true);
        // within INSERT, and a recording
        pad = Probe.pad("abc");
        Probe.type(pad, "qz");
        for (int i = 0; i < 98; i++) {
            pad.keys(Probe.packed("lhlhlhlh"));
        }
        Probe.type(pad, "lhlhlhlhlhixyz{ESC}q");
        Probe.due("ESC is passed over, and q", Probe.text(pad) + pad.mode() + Probe.register(pad, 'z'), "xyzabc10:");
        Probe.due("agrees", pad.agrees(), true);
    }

    /** "Signs are put at its end (60 at most), BACK takes the last one away (on an empty one: ends LINE)". */
    private static void signsOfCommandLines() {
        ModalPad pad = Probe.pad("a");
        Probe.type(pad, ":n" + "0".repeat(58) + "A");
        Probe.due("60", pad.given(), 60);
        Probe.type(pad, "B");
        Probe.due("the 61st one is passed over", pad.given() * 10 + pad.failures(), 600);
        Probe.type(pad, "{BACK}x{ENTER}");
        Probe.due("60 are done", Probe.text(pad) + pad.failures(), "0");
        Probe.type(pad, ":{BACK}");
        Probe.due("BACK ends it", pad.mode() * 10 + pad.failures(), 0);
        Probe.type(pad, ":d{BACK}{BACK}");
        Probe.due("BACK ends it", pad.mode() * 10 + pad.failures(), 0);
        Probe.type(pad, ":d{ESC}");
        Probe.due("ESC ends it", pad.mode() * 10 + pad.failures(), 0);
        Probe.type(pad, ":{ENTER}");
        Probe.due("an empty one is none of these", pad.mode() * 10 + pad.failures(), 1);
        Probe.type(pad, ":{REDO}{RECT}{OLDER}{NEWER}");
        Probe.due("others are passed over", pad.mode() * 100 + pad.given() * 10 + pad.failures(), 501);
    }

    /** "Lines counted from 1", "the first one not behind the other", "it fails if an address is not there". */
    private static void addresses() {
        String text = "a\nb\nc";
        String[] wrong = {"0d", "4d", "0,1d", "1,4d", "3,2d", "2,1d", "$,1d", "4,4d", "99d", "9999999999d", "'ad", "'a,2d", "1,'ad",
            "',2d", ",d", "1,d", "%%d", "%1d", "1%d", "1,2,3d", " 1d", "1 d", "1, 2d", "-1d", "1+1d", ".,0d",
            "m4", "m-1", "m", "m'a", "m1 ", "1m00x"};
        for (String line : wrong) {
            fails(text, ":" + line + "{ENTER}", 0, ModalPad.NORMAL);
        }
        Probe.after(text, ":1d{ENTER}", "b\nc", 0);
        Probe.after(text, ":3d{ENTER}", "a\nb", 100);
        Probe.after(text, ":1,1d{ENTER}", "b\nc", 0);
        Probe.after(text, ":1,3d{ENTER}", "", 0);
        Probe.after(text, ":1,$d{ENTER}", "", 0);
        Probe.after(text, ":.,.d{ENTER}", "b\nc", 0);
        Probe.after(text, ":$,$d{ENTER}", "a\nb", 100);
        Probe.after(text, "jma:'a,'ad{ENTER}", "a\nc", 100);
        Probe.after(text, "j:2,.d{ENTER}", "a\nc", 100);
        Probe.after(text, ":%d{ENTER}", "", 0);
        Probe.after("", ":%d{ENTER}", "", 0);
        Probe.after("", ":1,$y{ENTER}", "", 0);
    }

    private static void linesThatAreNotThere() {
        fails("a\nb", "G:j{ENTER}", 100, ModalPad.NORMAL);
        fails("a", ":j{ENTER}", 0, ModalPad.NORMAL);
        fails("a\nb", ":2,2j{ENTER}", 0, ModalPad.NORMAL);
        Probe.after("a\nb", ":1j{ENTER}", "a b", 0);
        Probe.after("a\nb", ":%j{ENTER}", "a b", 0);
        fails(SIXTY + "\nb", ":%j{ENTER}", 0, ModalPad.NORMAL);
        fails("b\n" + SIXTY, ":%>{ENTER}", 0, ModalPad.NORMAL);
        Probe.after("b\n" + SIXTY.substring(2), ":%>{ENTER}", "  b\n  " + SIXTY.substring(2), 102);
        Probe.after("\n", ":%>{ENTER}", "\n", 100);
        Probe.after("  \n ", ":%<{ENTER}", "\n", 100);
    }

    /** "Which must not be one of them but the last one", "if they stay where they are by that, nothing is taken out". */
    private static void movedAndSorted() {
        String text = "a\nb\nc\nd";
        fails(text, ":1,3m1{ENTER}", 0, ModalPad.NORMAL);
        fails(text, ":1,3m2{ENTER}", 0, ModalPad.NORMAL);
        fails(text, ":%m2{ENTER}", 0, ModalPad.NORMAL);
        for (String line : new String[] {"2,3m3", "2,3m1", "1m1", "1m0", "%m0", "%m$", "%m4", "4m4", "4m3", "%sort", "2sort"}) {
            ModalPad pad = Probe.pad(text);
            Probe.type(pad, "majmbjmcjmdgg:" + line + "{ENTER}");
            Probe.due("nothing moves by " + line, Probe.text(pad) + pad.failures() + pad.states(), text + "01");
            Probe.due("nothing is taken out", pad.mark('a') + pad.mark('b') + pad.mark('c') + pad.mark('d'), 600);
        }
        Probe.after(text, ":1m4{ENTER}", "b\nc\nd\na", 300);
        Probe.after(text, ":4m0{ENTER}", "d\na\nb\nc", 0);
        Probe.after(text, ":1,3m4{ENTER}", "d\na\nb\nc", 300);
        Probe.after(text, ":2,4m0{ENTER}", "b\nc\nd\na", 200);
        Probe.after(text, ":2,4m00{ENTER}", "b\nc\nd\na", 200);
        // signs by their codes, shorter lines ahead of those that they begin
        Probe.after("~\na\nZ\n \n\nab\n_", ":%sort{ENTER}", "\n \nZ\n_\na\nab\n~", 600);
        ModalPad pad = Probe.after("b\na\na", "jmajmbgg:%sort{ENTER}", "a\na\nb", 200);
        Probe.due("all of them are taken out", pad.mark('a') + pad.mark('b'), -2);
    }

    private static void substituted() {
        for (String line : new String[] {"s/q/x/", "s//x/", "s/a", "s/a/", "s/a/x", "s/a/x/gg", "s/a/x/ ", "s/a/x/y", "s/a/x//", "s", "s/",
            "s//", "s///", "%s/q/x/g", "2s/a/x/"}) {
            fails("ab\ncd", ":" + line + "{ENTER}", 0, ModalPad.NORMAL);
        }
        Probe.after("aaa", ":s/a//{ENTER}", "aa", 0);
        Probe.after("aaa", ":s/a//g{ENTER}", "", 0);
        Probe.after("aaa", ":s/aaa/b/{ENTER}", "b", 0);
        Probe.after("aaa", ":s/aa/a/g{ENTER}", "aa", 0);
        Probe.after("aaa", ":s/a/a/g{ENTER}", "aaa", 0);
        Probe.after(SIXTY, ":s/x/y/g{ENTER}", SIXTY.replace('x', 'y'), 0);
        fails(SIXTY, ":s/x/yy/{ENTER}", 0, ModalPad.NORMAL);
        fails("a\n" + SIXTY, ":%s/x/ax/{ENTER}", 0, ModalPad.NORMAL);
        Probe.after(SIXTY.substring(30), ":s/x/yy/g{ENTER}", "y".repeat(60), 0);
        fails(SIXTY.substring(29), ":s/x/yy/g{ENTER}", 0, ModalPad.NORMAL);
        Probe.after("a a\nb\na", ":%s/a/c/{ENTER}", "c a\nb\nc", 200);
    }

    /** n: "one at least", "for each line that is still there"; g: "if s and g find nothing". */
    private static void keysAndGlobal() {
        fails("ab", ":n{ENTER}", 0, ModalPad.NORMAL);
        fails("ab", ":g/q/d{ENTER}", 0, ModalPad.NORMAL);
        fails("ab", ":g//d{ENTER}", 0, ModalPad.NORMAL);
        fails("ab", ":g/a/{ENTER}", 0, ModalPad.NORMAL);
        fails("ab", ":g/a/n{ENTER}", 0, ModalPad.NORMAL);
        fails("ab", ":g/a/y{ENTER}", 0, ModalPad.NORMAL);
        fails("ab", ":g/a/sort{ENTER}", 0, ModalPad.NORMAL);
        fails("ab", ":g/a/g/a/d{ENTER}", 0, ModalPad.NORMAL);
        fails("ab\na", ":2g/b/d{ENTER}", 0, ModalPad.NORMAL);
        fails("ab", ":3g/a/d{ENTER}", 0, ModalPad.NORMAL);
        Probe.after("a\nb\nc", ":%ndd{ENTER}", "", 0);
        Probe.after("a\nb\nc\nd", ":%ndj{ENTER}", "", 0);
        Probe.after("a\nb\nc", ":1,2ndG{ENTER}", "", 0);
        Probe.after("a\nb\na", ":g/a/d{ENTER}", "b", 0);
        Probe.after("a\na", ":g/a/d{ENTER}", "", 0);
        Probe.after("a\na\na", ":g/a/nddp{ENTER}", "a\na\na", 200);
        // up to a failure it stays, the rest is dropped
        Probe.after("ab\nc\nab", ":%nlx{ENTER}", "a\nc\nab", 100, 1);
        Probe.after("ab\na\nab", ":g/a/s/b//{ENTER}", "a\na\nab", 0, 1);
        ModalPad pad = Probe.after("ab", ":niZ{ENTER}", "Zab", 0);
        Probe.due("as if ESC was given", pad.mode(), ModalPad.NORMAL);
        pad = Probe.after("ab", ":nvQ{ENTER}", "ab", 0, 1);
        Probe.due("but not if one has failed", pad.mode(), ModalPad.SIGNS);
        pad = Probe.after("ab", ":nv\"{ENTER}", "ab", 0);
        Probe.due("twice", pad.mode() * 10 + pad.given(), 0);
        pad = Probe.after("ab", ":n:s/a{ENTER}", "ab", 0);
        Probe.due("in LINE, too", pad.mode() * 10 + pad.given(), 0);
    }
}
