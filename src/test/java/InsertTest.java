/** INSERT (promises 4, 12 to 15). */
public final class InsertTest {
    public static void main(String[] args) {
        beginning();
        keysOfInsert();
        counts();
        limits();
        Probe.end();
    }

    private static void beginning() {
        Probe.after("  ab", "3lix{ESC}", "  axb", 3);
        Probe.after("  ab", "3lax{ESC}", "  abx", 4);
        Probe.after("", "ax{ESC}", "x", 0);
        Probe.after("  ab", "Ix{ESC}", "  xab", 2);
        Probe.after("   ", "Ix{ESC}", "   x", 3);
        Probe.after("  ab", "Ax{ESC}", "  abx", 4);
        Probe.after("a\nb", "ox{ESC}", "a\nx\nb", 100);
        Probe.after("a\nb", "Ox{ESC}", "x\na\nb", 0);
        Probe.after("a\nb", "3ox{ESC}", "a\nx\nb", 100);
        Probe.after("ab", "i{ESC}", "ab", 0);
        Probe.after("ab", "$a{ESC}", "ab", 1);
        ModalPad pad = Probe.after("ab", "Axyz", "abxyz", 5);
        Probe.due("mode", pad.mode(), ModalPad.INSERT);
        Probe.due("given", pad.given(), 0);
        Probe.due("no state yet", pad.states(), 1);
        Probe.type(pad, "{ESC}");
        Probe.due("mode", pad.mode(), ModalPad.NORMAL);
        Probe.due("a state", pad.states(), 2);
        Probe.due("column", pad.column(), 4);
    }

    private static void keysOfInsert() {
        Probe.after("abcd", "llix{ENTER}y{ESC}", "abx\nycd", 100);
        Probe.after("abcd", "lli{ENTER}{ESC}", "ab\ncd", 100);
        Probe.after("abcd", "llixy{BACK}z{ESC}", "abxzcd", 3);
        Probe.after("abcd", "lli{BACK}{ESC}", "abcd", 1);
        Probe.after("abcd", "llix{BACK}{BACK}{BACK}y{ESC}", "abycd", 2);
        Probe.after("abcd", "llix{ENTER}y{BACK}{BACK}z{ESC}", "abx\nzcd", 100);
        Probe.after("ab", "ix{REDO}{RECT}{OLDER}{NEWER}y{ESC}", "xyab", 1);
        Probe.after("ab", "i:d{ENTER}u{ESC}", ":d\nuab", 100);
    }

    private static void counts() {
        Probe.after("ab", "3ix{ESC}", "xxxab", 2);
        Probe.after("ab", "3axy{ESC}", "axyxyxyb", 6);
        Probe.after("  a", "2Ix{ESC}", "  xxa", 3);
        Probe.after("a", "12Ax{ESC}", "a" + "x".repeat(12), 12);
        Probe.after("ab", "l2ix{ENTER}y{ESC}", "ax\nyx\nyb", 200);
        Probe.after("ab", "3ixy{BACK}{ESC}", "xxxab", 2);
        Probe.after("ab", "3ix{BACK}{ESC}", "ab", 0);
        Probe.after("ab", "3i{ESC}", "ab", 0);
        Probe.after("ab", "l2i{ENTER}{ESC}", "a\n\nb", 200);
        Probe.after("ab cd ef", "2cwx{ESC}", "xef", 0);
        // all of it or none
        Probe.after("a", "59ix{ESC}", "x".repeat(59) + "a", 58);
        Probe.after("a", "60ix{ESC}", "xa", 0);
        Probe.after("a", "39i{ENTER}{ESC}", "\n".repeat(39) + "a", 3900);
        Probe.after("a", "40i{ENTER}{ESC}", "\na", 100);
        // the rest of the line goes to the last line
        String rest = "r".repeat(40);
        Probe.after(rest, "3i" + "x".repeat(15) + "{ENTER}" + "y".repeat(15) + "{ESC}",
            "x".repeat(15) + "\n" + ("y".repeat(15) + "x".repeat(15) + "\n").repeat(2) + "y".repeat(15) + rest, 314);
    }

    private static void limits() {
        Probe.after("x".repeat(59), "Aab{ESC}", "x".repeat(59) + "a", 59);
        Probe.after("x".repeat(60), "ia{BACK}{ESC}", "x".repeat(60), 0);
        String full = "\n".repeat(39);
        Probe.after(full, "Gix{ENTER}y{ESC}", full + "xy", 3901);
        Probe.after(full, "o", full, 0, 1);
        Probe.after(full, "O", full, 0, 1);
    }
}
