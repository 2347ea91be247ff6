/**
 * "A command fails if it cannot be done as told: then nothing changes": neither what calls tell, nor what keys behind it
 * lead to, by which the wanted column, the signs searched last and the like are seen.
 */
public final class FailedCommandsTest {
    private static final String TEXT = "ab ab\n\nc(d\"e\nab zz\nzz zz";
    /** Keys that show what is remembered. */
    private static final String[] BEHIND = {"k", "j", "h", "l", ";", ",", "n", "N", ".", "2.", "@@", "u", "{REDO}", "g-",
        "{OLDER}", "2{OLDER}", "{NEWER}", "x", "X", "p", "\"1P", "gm", "i-{ESC}", "dw", "vb~", "V", "zo", "G", ":s/z/y/{ENTER}"};
    /** Commands that can be none with their last key, wherever the cursor is. */
    private static final String[] NONE_AT_ALL = {"{ENTER}", "{BACK}", "Q", "gx", "zx", "dx", "d{ENTER}", "g~g~", "dgm", "dz",
        "\"!", "\"{ENTER}", "2\"", "r{ENTER}", "f{BACK}", "/z{BACK}", "d/z{REDO}", "diq", "ciz", "yv", "mA", "'A", "`1", "@1",
        "q1", "qA", "2gz", "\"ad\"", "yd", "><", "zfo", "d2{OLDER}", "c:"};
    /** Commands that lack something, wherever the cursor is in the last line. */
    private static final String[] LACKING = {"fq", "2Fq", "tq", "Tq", "dfq", "cTq", "%", "y%", "/q{ENTER}", "/{ENTER}",
        "d/qq{ENTER}", "c/{ENTER}", "'z", "`z", "d'z", "c`z", "2dd", "2cc", "2yy", "2>>", "2<<", "g~2~", "zf2z", "zfz", "d2d",
        "d9iw", "c9aw", "di(", "ca(", "yi[", "da{", "ci\"", "ya\"", "9rx", "J", "3J", "\"ep", "\"eP", "\"_p", "\"cp", "99p",
        "zo", "zc", "zd", "99u", "99{REDO}", "99g-", "99g+", "99{OLDER}", "99{NEWER}", "@e", "j", "dj", "2yj", "zfj", "9e",
        ":{ENTER}", ":q{ENTER}", ":9d{ENTER}", ":0d{ENTER}", ":2,1d{ENTER}", ":'zd{ENTER}", ":s/q/z/{ENTER}", ":g/q/d{ENTER}",
        ":g/z/y{ENTER}", ":m9{ENTER}", ":m{ENTER}", ":1,3m2{ENTER}", ":j{ENTER}", ":n{ENTER}", ":s//z/{ENTER}", ": d{ENTER}",
        ":sor{ENTER}", ":d {ENTER}", ":5{ENTER}", ":,d{ENTER}", ":g//d{ENTER}", ":g/z/2d{ENTER}"};

    public static void main(String[] args) {
        for (String keys : NONE_AT_ALL) {
            changesNothing(false, keys);
            changesNothing(true, keys);
        }
        for (String keys : LACKING) {
            changesNothing(false, keys);
            // : is a command of its own, which leaves the main cursor alone
            if (keys.charAt(0) != ':') {
                changesNothing(true, keys);
            }
        }
        for (String keys : new String[] {"h", "2h", "dh", "X", "3X", "ch"}) {
            changesNothing(true, keys);
        }
        for (String keys : new String[] {"l", "w", "3w", "e", "de", "}", "2}", "2$", "d2$", "2C"}) {
            changesNothing(false, keys);
        }
        leftSelections();
        Probe.end();
    }

    /** A pad with something of everything; several: at the first sign of the last line with others, or on its last sign. */
    private static ModalPad begun(boolean several) {
        ModalPad pad = Probe.pad(TEXT);
        Probe.type(pad, "xuqcfa{ESC}qmajmbzfjgg\"ayyqdxq@d:s/b/c/{ENTER}ggG");
        Probe.type(pad, several ? "/zz{ENTER}/zz{ENTER}/zz{ENTER}gm" : "/zz{ENTER}{OLDER}G$");
        return pad;
    }

    private static void changesNothing(boolean several, String keys) {
        ModalPad pad = begun(several);
        String ahead = Probe.standing(pad);
        String what = (several ? "several, " : "one, ") + keys;
        Probe.due(what, Probe.type(pad, keys), 1);
        Probe.due(what + " changes nothing", Probe.standing(pad), ahead);
        Probe.due(what + " drops its keys", pad.given(), 0);
        for (String behind : BEHIND) {
            ModalPad failed = begun(several);
            ModalPad fresh = begun(several);
            Probe.type(failed, keys);
            Probe.due(what + ", then " + behind, Probe.type(failed, behind), Probe.type(fresh, behind));
            Probe.due(what + ", then " + behind + " leads to the same", Probe.standing(failed), Probe.standing(fresh));
        }
        Probe.due(what + ": agrees", pad.agrees(), true);
    }

    /** "A command that is none here fails; whatever fails leaves the selection", from where it began to the cursor. */
    private static void leftSelections() {
        String[] failing = {"i!", "p", "u", ":", ".", "@", "q", "m", "A", "I", "O", "D", "C", "S", "X", "Y", "{REDO}", "{OLDER}",
            "{NEWER}", "{ENTER}", "gm", "zo", "zc", "zd", "g-", "zz", "fq", "'z", "/q{ENTER}", "i[", "a\"", "9j", "\"!"};
        for (String begin : new String[] {"v", "V", "{RECT}"}) {
            for (String keys : failing) {
                ModalPad pad = Probe.pad("ab c\nde f\ngh");
                Probe.type(pad, "l" + begin + "jl");
                String ahead = Probe.standing(pad);
                Probe.due(begin + " " + keys, Probe.type(pad, keys), 1);
                Probe.due(begin + " " + keys + " changes nothing", Probe.standing(pad), ahead);
                Probe.type(pad, "d");
                String left = begin.equals("v") ? "af\ngh" : begin.equals("V") ? "gh" : "ac\ndf\ngh";
                Probe.due(begin + " " + keys + " leaves the selection", Probe.text(pad), left);
            }
        }
    }
}
