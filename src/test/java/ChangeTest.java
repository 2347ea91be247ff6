/** Changes, states, the last change, keys that are recorded and played (promises 4, 26 to 30). */
public final class ChangeTest {
    public static void main(String[] args) {
        states();
        oldestForgotten();
        lastChange();
        lastChangeWithCount();
        lastChangeOfInsertion();
        recording();
        playing();
        limitsOfPlaying();
        limitOfKeys();
        Probe.end();
    }

    private static void isAt(ModalPad pad, String keys, int wantState, String wantText, int wantPlace) {
        Probe.due("failures of " + keys, Probe.type(pad, keys), 0);
        Probe.due("state behind " + keys, pad.state(), wantState);
        Probe.due("text behind " + keys, Probe.text(pad), wantText);
        Probe.due("place behind " + keys, Probe.place(pad), wantPlace);
    }

    private static void failsAt(ModalPad pad, String keys, int wantState) {
        Probe.due("failures of " + keys, Probe.type(pad, keys), 1);
        Probe.due("state behind " + keys, pad.state(), wantState);
    }

    private static void states() {
        ModalPad pad = Probe.pad("abc\n  def\nghi");
        isAt(pad, "x", 1, "bc\n  def\nghi", 0);
        isAt(pad, "jllx", 2, "bc\n  ef\nghi", 102);
        isAt(pad, "Gdd", 3, "bc\n  ef", 102);
        isAt(pad, "u", 2, "bc\n  ef\nghi", 200);
        isAt(pad, "2u", 0, "abc\n  def\nghi", 0);
        failsAt(pad, "u", 0);
        isAt(pad, "2{REDO}", 2, "bc\n  ef\nghi", 0);
        failsAt(pad, "2{REDO}", 2);
        isAt(pad, "{REDO}", 3, "bc\n  ef", 102);
        failsAt(pad, "{REDO}", 3);
        isAt(pad, "2u", 1, "bc\n  def\nghi", 102);
        isAt(pad, "ggx", 4, "c\n  def\nghi", 0);
        Probe.due("parents", "" + pad.parent(0) + pad.parent(1) + pad.parent(2) + pad.parent(3) + pad.parent(4),
            "-10121");
        Probe.due("states", pad.states(), 5);
        isAt(pad, "u{REDO}", 4, "c\n  def\nghi", 0);
        isAt(pad, "g-", 3, "bc\n  ef", 0);
        isAt(pad, "2g-", 1, "bc\n  def\nghi", 102);
        isAt(pad, "2g+", 3, "bc\n  ef", 102);
        failsAt(pad, "2g+", 3);
        failsAt(pad, "4g-", 3);
        isAt(pad, "g+", 4, "c\n  def\nghi", 0);
        failsAt(pad, "5u", 4);
        Probe.due("a state more from 3", Probe.type(pad, "g-x"), 0);
        Probe.due("its number", pad.state() * 10 + pad.parent(5), 53);
        Probe.due("nothing is no change", Probe.type(pad, "Ggglliq{BACK}{ESC}r" + "c" + "yyjk"), 2);
        Probe.due("agrees", pad.agrees(), true);
        for (int state : new int[] {-1, 6, 99, Integer.MIN_VALUE, Integer.MAX_VALUE}) {
            Probe.due("parent of " + state, Probe.thrown(() -> pad.parent(state)), "IndexOutOfBoundsException");
        }
        // lines that one of both has not differ, and the first of them is gone to
        Probe.after("a\nb\nc", "Gox{ENTER}y{ESC}u{REDO}", "a\nb\nc\nx\ny", 300);
        Probe.after("a\nb\nc", "Gox{ENTER}y{ESC}ggu", "a\nb\nc", 200);
        // the cursor stays if no line differs, and so does its column
        Probe.after("abc\nabcdef", "~h~$2uj", "abc\nabcdef", 102);
        Probe.after("abc\nabcdef", "~h~$2g-j", "abc\nabcdef", 102);
        ModalPad other = Probe.pad("ab\ncd");
        Probe.type(other, "xugg~ug+~g-");
        Probe.due("states that are the same", other.states(), 4);
        Probe.type(other, "jlg-");
        Probe.due("it stays", Probe.place(other), 0);
    }

    private static void oldestForgotten() {
        ModalPad pad = Probe.pad("a");
        for (int i = 1; i <= 98; i++) {
            Probe.type(pad, "~");
        }
        Probe.due("states", pad.states() * 1000 + pad.state(), 99098);
        Probe.type(pad, "3uAb{ESC}");
        Probe.due("all are forgotten", pad.states() * 1000 + pad.state(), 1000);
        Probe.due("parent", pad.parent(0), ModalPad.NONE);
        Probe.due("u", Probe.type(pad, "u"), 1);
        Probe.due("text", Probe.text(pad), "Ab");
        Probe.type(pad, "~");
        Probe.due("and on", pad.states() * 1000 + pad.state(), 2001);
        Probe.due("agrees", pad.agrees(), true);
    }

    private static void lastChange() {
        Probe.after("abcdef", ".", "abcdef", 0, 1);
        Probe.after("abcdef", "x.", "cdef", 0);
        Probe.after("abcdef", "2xl.", "cf", 1);
        Probe.after("a b c d", "dw.", "c d", 0);
        Probe.after("abcdef", "xylh.", "cdef", 0, 1);
        Probe.after("abcdef", "rzl.", "zzcdef", 1);
        Probe.after("abcd\nef\ngh", "J.", "abcd ef gh", 7);
        Probe.after("ab", "~u.", "Ab", 1);
        Probe.after("abcdef", "xu.", "bcdef", 0);
        Probe.after("abcdef", "xvld.", "ef", 0);
        Probe.after("ab\ncd", "x:j{ENTER}0.", " cd", 0);
        Probe.after("aXbXc", "dfX.", "c", 0);
        Probe.after("a\nb\nc", "\"add\"ap.", "b\na\na\nc", 200);
        Probe.after("ab", "xp", "ba", 1);
        // a command that changes nothing is none
        Probe.after("aa bb", "xra.", " bb", 0);
        // one that fails is none
        Probe.after("abc", "x3J.", "c", 0, 1);
        // the text that is loaded next does not matter
        ModalPad pad = Probe.pad("abc");
        Probe.type(pad, "x");
        Probe.feed(pad, "defg");
        pad.load();
        Probe.type(pad, ".");
        Probe.due("what . does stays", Probe.text(pad), "efg");
        Probe.due("agrees", pad.agrees(), true);
    }

    private static void lastChangeWithCount() {
        Probe.after("abcdefghij", "x3.", "efghij", 0);
        Probe.after("abcdefghijkl", "xl9.", "bl", 1);
        Probe.after("abcdefghijkl", "xl10.", "b", 0);
        Probe.after("abcdefghij", "x3..", "hij", 0);
        Probe.after("abcdefghij", "2x3.", "fghij", 0);
        Probe.after("abcdefghij", "3x1.", "efghij", 0);
        Probe.after("abcdefghijklmnop", "x12.", "nop", 0);
        Probe.after("abcdefghijklmnop", "\"ax12.", "nop", 0);
        Probe.after("a b c d e f g h i", "2d2w.", "i", 0);
        Probe.after("a b c d e f g h i", "2d2w3.", "h i", 0);
        Probe.after("a b c d e f g h i", "d3w2.", "f g h i", 0);
        Probe.after("a b c d e f g h i", "d3w2..", "h i", 0);
        Probe.after("abcd", "ix{ESC}3.", "xxxxabcd", 2);
        Probe.after("a\nb\nc\nd\ne", "\"add2.\"ap", "d\nb\nc\ne", 100);
        Probe.after("a\nb\nc\nd\ne\nf", "d2d12.", "c\nd\ne\nf", 0, 1);
        // the number of a register becomes one more each time
        Probe.after("a\nb\nc\nd", "dddddd\"1p...", "d\nc\nb\na", 300, 1);
        Probe.after("a\nb\nc\nd", "dddddd\"1p2.", "d\nc\nb\nb", 200);
        Probe.after("a\nb\nc\nd", "dddddd\"1p.u.", "d\nc\na", 200);
        Probe.after("a\nb\nc\nd", "dddddd\"4P\"1P.", "b\nc\nd", 0, 1);
        ModalPad pad = Probe.after("a\nb\nc", "\"9yy\"9p..", "a\na\na\na\nb\nc", 300);
        Probe.due("9 stays 9", pad.failures(), 0);
        Probe.after("a\nb\nc", "\"9yyj\"8yy\"8P.", "a\na\nb\nb\nc", 100);
        // it stays so if nothing changes by it, but not if it fails
        Probe.after("baaaabbbbb", "ra3.4l.", "aaaaabaaab", 8);
        Probe.after("baaaabbbbb", "ra20.$.", "aaaaabbbba", 9, 1);
        Probe.after("a\nb\nc\nd", "dddd\"1pu2.", "c\nd\na\na", 200);
        Probe.after("a\nb\nc\nd", "dddd\"1pu.u.\"3yyk.", "c\nd\nd", 100, 1);
    }

    private static void lastChangeOfInsertion() {
        Probe.after("a b", "cwxy{BACK}{ESC}l.", "xx", 1);
        Probe.after("ab", "ox{ENTER}y{ESC}gg.", "ab\nx\ny\nx\ny", 200);
        Probe.after("ab", "iab{BACK}{BACK}{ESC}.", "ab", 0, 1);
        Probe.after("ab", "xiq{ESC}.", "qqb", 0);
        Probe.after("ab cd", "qaifoo{ESC}q$.", "fooab cfood", 9);
        Probe.after("ab", "qaAx{ESC}q@a.", "abxxx", 4);
        Probe.after("abc", "qaixq{ESC}q@a", "xxqqabc", 2);
        // more keys than can be played: it fails, goes on, and ESC ends it
        String many = "abcdefghijklmnopqrstuvwxyz".repeat(2);
        ModalPad pad = Probe.pad("");
        Probe.type(pad, "i" + many + "{ENTER}" + many + "{ESC}");
        Probe.due("no failure", pad.failures(), 0);
        pad.load();
        Probe.due(". fails", Probe.type(pad, "2."), 1);
        Probe.due("it goes on", pad.mode(), ModalPad.INSERT);
        Probe.due("with 100 keys", Probe.place(pad), 145);
        Probe.due("no state yet", pad.states(), 1);
        Probe.type(pad, "!{ESC}");
        Probe.due("which ends", pad.mode(), ModalPad.NORMAL);
        String once = many + "\n" + many.substring(0, 45) + "!";
        Probe.due("text, but not twice as that is too long", Probe.text(pad), once);
        Probe.due("as one state", pad.states(), 2);
        // it is the last change then, with its count
        pad.load();
        Probe.due("that again", Probe.type(pad, "."), 1);
        Probe.due("with its count", Probe.place(pad), 145);
        Probe.due("agrees", pad.agrees(), true);
        // 100 keys can be played
        pad = Probe.pad("");
        Probe.type(pad, "i" + many + "{ENTER}" + many.substring(0, 45) + "{ESC}");
        pad.load();
        Probe.type(pad, ".");
        Probe.due("100 keys", pad.failures() * 10 + pad.mode(), 0);
        pad = Probe.pad("");
        Probe.type(pad, "i" + many + "{ENTER}" + many.substring(0, 46) + "{ESC}");
        pad.load();
        Probe.type(pad, ".");
        Probe.due("101 keys", pad.failures() * 10 + pad.mode(), 10 + ModalPad.INSERT);
    }

    private static void recording() {
        ModalPad pad = Probe.pad("abc\ndef\nghi");
        Probe.type(pad, "qxxj2l/g{ENTER}ia{ENTER}b{ESC}vj{ESC}q");
        Probe.due("register", Probe.register(pad, 'x'), "1:xj2l/g\nia\nb\33vj\33");
        Probe.due("the unnamed one has what x took", Probe.register(pad, '"'), "1:a");
        Probe.type(pad, "qxq");
        Probe.due("nothing recorded", Probe.register(pad, 'x'), "0:");
        Probe.type(pad, "qy0Zl");
        Probe.due("not yet", Probe.register(pad, 'y'), "0:");
        Probe.type(pad, "q");
        Probe.due("with what failed", Probe.register(pad, 'y'), "1:0Zl");
        Probe.due("qA", Probe.type(pad, "qA"), 1);
        Probe.due("q1", Probe.type(pad, "q1"), 1);
        Probe.type(pad, "qz0");
        Probe.feed(pad, "new");
        pad.load();
        Probe.type(pad, "qzlq");
        Probe.due("load drops it", Probe.register(pad, 'z'), "1:l");
        pad.map(ModalPad.NORMAL, 'K', Probe.packed("hl"), false);
        Probe.type(pad, "qaKq@a");
        Probe.due("keys of maps", Probe.register(pad, 'a'), "1:hl");
        Probe.due("agrees", pad.agrees(), true);
    }

    private static void playing() {
        Probe.after("abcdef", "qaxlq@a", "bdef", 2);
        Probe.after("abcdefgh", "qaxlq2@a", "bdfgh", 3);
        Probe.after("abcdefgh", "qaxq@a@@", "defgh", 0);
        Probe.after("abcdefgh", "qaxq@a2@@", "efgh", 0);
        Probe.after("abc", "@a", "abc", 0, 1);
        Probe.after("abc", "@@", "abc", 0, 1);
        Probe.after("abc", "@1", "abc", 0, 1);
        Probe.after("abc", "@A{ESC}", "abc", 0, 1);
        Probe.after("abcdef", "qaxqqbhq@a@b@@", "cdef", 0, 3);
        // line ends are ENTER
        Probe.after("ab\nx\nx\nx", "qa/x{ENTER}rzq@a@a", "ab\nz\nz\nz", 300);
        Probe.after("l\nabc", "\"ayyj@a", "l\nabc", 101, 1);
        // a failure drops all that is still to be played
        Probe.after("abcdef", "qaxhxq3@a", "def", 0, 2);
        Probe.after("abcd", "xqaulqx@a", "acd", 1, 1);
        ModalPad pad = Probe.after("ab cd", "qaxuq@a", "b cd", 0, 1);
        Probe.due("u fails while keys are played", pad.states(), 3);
        // all that @ does is one change
        pad = Probe.pad("abcdef");
        Probe.type(pad, "qaxlxqu0u");
        Probe.type(pad, "@a");
        Probe.due("one state more", pad.states(), 4);
        Probe.type(pad, "u");
        Probe.due("u takes all of it back", Probe.text(pad), "abcdef");
        Probe.due("but . is its last command", Probe.type(pad, "$.") * 10 + pad.length(0), 5);
        // q fails while keys are played
        Probe.after("qb", "\"ayw@a", "qb", 0, 1);
        pad = Probe.after("qbl", "\"ayl\"Ayw@a", "qbl", 0, 1);
        // an insertion that goes on behind what is played
        pad = Probe.after("aix", "lv$\"ay0@ay{ESC}", "xyaix", 1);
        Probe.due("one state", pad.states(), 2);
        Probe.type(pad, "$.");
        Probe.due("the last change", Probe.text(pad), "xyaixyx");
    }

    private static void limitsOfPlaying() {
        ModalPad pad = Probe.pad("a".repeat(60));
        Probe.type(pad, "qaxlhq99@a");
        Probe.due("99 times 3 keys", pad.failures(), 1);
        Probe.due("100 keys were played", pad.length(0), 59 - 34);
        pad = Probe.pad("a".repeat(60));
        Probe.type(pad, "qaxq");
        Probe.due("99 keys", Probe.type(pad, "58@a"), 0);
        Probe.due("length", pad.length(0), 1);
        pad = Probe.pad("ab");
        Probe.type(pad, "qa" + "lh".repeat(50) + "q0");
        Probe.due("100 keys", Probe.type(pad, "@a"), 0);
        Probe.type(pad, "qa" + "lh".repeat(50) + "lq0");
        Probe.due("101 keys", Probe.type(pad, "@a"), 1);
        Probe.due("100 of them", pad.column(), 0);
        // 20 within one another
        pad = Probe.pad("a".repeat(60));
        Probe.type(pad, "qax@aq");
        Probe.due("the register was empty", pad.failures(), 1);
        Probe.due("length", pad.length(0), 59);
        Probe.due("it plays itself", Probe.type(pad, "@a"), 1);
        Probe.due("20 times", pad.length(0), 39);
        Probe.due("as one change", pad.states(), 3);
        Probe.due("agrees", pad.agrees(), true);
        lineCutOff();
        // n is one of them, too
        Probe.after("ab", "qa:n~@a{ENTER}q:n@a{ENTER}", "ab", 1, 2);
    }

    /** A command line that is not played to its end goes on, with the signs that it has. */
    private static void lineCutOff() {
        ModalPad pad = Probe.pad("ab");
        Probe.type(pad, "qa" + "lh".repeat(48) + ":zzz{BACK}{BACK}{BACK}{ESC}q0@a");
        Probe.due("101 keys", pad.mode() * 100 + pad.given() * 10 + pad.failures(), 531);
        Probe.type(pad, "{BACK}{BACK}{BACK}");
        Probe.due("it is not ended", pad.mode() * 10 + pad.given(), 50);
        Probe.type(pad, "{BACK}");
        Probe.due("BACK ends it", pad.mode(), ModalPad.NORMAL);
        pad = Probe.pad("abc\ncd");
        Probe.type(pad, "qa" + "lh".repeat(48) + "x:2d0{BACK}");
        Probe.due("recorded to its end", pad.mode() * 10 + pad.given(), 52);
        Probe.type(pad, "{ESC}q0@a");
        Probe.due("a failure", pad.failures(), 1);
        Probe.due("cut off", pad.mode() * 10 + pad.given(), 52);
        Probe.due("what was done ahead of it", Probe.text(pad), "c\ncd");
        Probe.due("is a state", pad.states() * 10 + pad.state(), 32);
        Probe.type(pad, "{ENTER}");
        Probe.due("ENTER does it", Probe.text(pad), "c");
        Probe.due("no failure more", pad.failures() * 10 + pad.mode(), 10);
        Probe.due("agrees", pad.agrees(), true);
        // what comes from maps is dropped by it, what is typed goes on
        pad = Probe.pad(":x");
        pad.map(ModalPad.NORMAL, Probe.packed("Z"), Probe.packed("51@azz"), false);
        Probe.due("a failure", Probe.type(pad, "\"ay$Z"), 1);
        Probe.due("60 signs", pad.mode() * 100 + pad.given(), 560);
        Probe.type(pad, "{BACK}{BACK}");
        Probe.due("BACK", pad.mode() * 100 + pad.given(), 558);
        Probe.due("ENTER ends it", Probe.type(pad, "{ENTER}"), 1);
        Probe.due("NORMAL", pad.mode() * 100 + pad.given(), 0);
        Probe.due("agrees", pad.agrees(), true);
        // n does not end what is given by keys of which one fails
        pad = Probe.pad(":xx");
        Probe.type(pad, "\"ay$:n34@a{ENTER}");
        Probe.due("a failure", pad.failures(), 1);
        Probe.due("LINE goes on", pad.mode(), ModalPad.LINE);
    }

    private static void limitOfKeys() {
        ModalPad pad = Probe.pad("abc");
        Probe.type(pad, "qalhq");
        for (int i = 0; i < 7; i++) {
            Probe.type(pad, "48@a");
        }
        Probe.due("5 and 7 times 100 keys", pad.taken(), 5 + 7 * 4);
        Probe.type(pad, "rxl");
        Probe.due("still", Probe.text(pad), "xbc");
        Probe.type(pad, "h".repeat(91));
        Probe.due("799 keys", pad.taken(), 33 + 3 + 91);
        Probe.type(pad, "r");
        Probe.due("800 keys", pad.given(), 1);
        Probe.due("no failure", Probe.type(pad, "yQQQ{ESC}"), 0);
        Probe.due("they are passed over", pad.given(), 1);
        Probe.due("but taken", pad.taken(), 33 + 3 + 91 + 1 + 5);
        Probe.due("text", Probe.text(pad), "xbc");
        Probe.due("agrees", pad.agrees(), true);
        // what was taken ahead of that is done to its end
        pad = Probe.pad("abc");
        Probe.type(pad, "qalhq");
        for (int i = 0; i < 7; i++) {
            Probe.type(pad, "48@a");
        }
        Probe.type(pad, "h".repeat(91));
        Probe.type(pad, "48@");
        Probe.due("799 keys", pad.given(), 3);
        Probe.due("the last one", Probe.type(pad, "a"), 0);
        Probe.due("is done", pad.given(), 0);
        Probe.type(pad, "x");
        Probe.due("the next one is not", Probe.text(pad), "abc");
        Probe.feed(pad, "de");
        pad.load();
        Probe.type(pad, "x");
        Probe.due("also behind load", Probe.text(pad), "de");
        Probe.due("agrees", pad.agrees(), true);
    }
}
