import java.util.Random;

/** What every call answers whatever was typed (promises 4, 12 to 18, 22 to 31), and the constants. */
public final class AnswersTest {
    private static final String OFTEN = "hjklwbe0$G%nNdcyxpPJuiaoOvV.~rf><gz\"123aq@m'`(){}/:;,";
    private static final int[] OTHERS = {27, 27, 27, 13, 8, 18, 22, 15, 9};

    public static void main(String[] args) {
        constants();
        for (int seed = 1; seed <= 60; seed++) {
            anyKeys(new Random(seed), seed);
        }
        sameAnswers();
        Probe.end();
    }

    private static void constants() {
        Probe.due("NONE", ModalPad.NONE, -1);
        int[] modes = {ModalPad.NORMAL, ModalPad.INSERT, ModalPad.SIGNS, ModalPad.LINES, ModalPad.RECTS,
            ModalPad.LINE};
        for (int i = 0; i < modes.length; i++) {
            Probe.due("mode " + i, modes[i], i);
        }
        Probe.due("SELECTION", ModalPad.SELECTION, 2);
    }

    private static long someKeys(Random random) {
        int[] keys = new int[8];
        for (int i = 0; i < random.nextInt(9); i++) {
            int kind = random.nextInt(20);
            keys[i] = kind < 15 ? OFTEN.charAt(random.nextInt(OFTEN.length()))
                : kind < 17 ? OTHERS[random.nextInt(OTHERS.length)] : kind < 19 ? 32 + random.nextInt(95)
                : random.nextInt(256);
        }
        return Probe.packed(keys);
    }

    private static void anyKeys(Random random, int seed) {
        ModalPad pad = Probe.pad("foo (bar\n\n  \"a b\" [x])\nfoo foo\n{\n}\n");
        for (int i = 0; i < 250; i++) {
            int failures = pad.failures();
            int call = random.nextInt(30);
            int failed = 0;
            if (call == 0) {
                failed = pad.tick(1 + random.nextInt(6));
            } else if (call == 1) {
                try {
                    pad.map(random.nextInt(3), 'a' + random.nextInt(26), someKeys(random) & 0x7f7f7f7f7f7fL,
                        random.nextBoolean());
                } catch (IllegalArgumentException | IllegalStateException e) {
                    failed = 0;
                }
            } else if (call == 2) {
                pad.setWrap(random.nextBoolean());
            } else {
                failed = pad.keys(someKeys(random));
            }
            String what = "seed " + seed + ", call " + i + ": ";
            Probe.due(what + "failures", pad.failures() - failures, failed);
            looks(pad, what);
        }
    }

    private static void looks(ModalPad pad, String what) {
        int line = pad.line();
        int last = pad.mode() == ModalPad.INSERT ? pad.length(line) : Math.max(0, pad.length(line) - 1);
        Probe.due(what + "lines", pad.lines() >= 1 && pad.lines() <= 40, true);
        Probe.due(what + "line", line >= 0 && line < pad.lines(), true);
        Probe.due(what + "column", pad.column() >= 0 && pad.column() <= last, true);
        Probe.due(what + "mode", pad.mode() >= 0 && pad.mode() <= 5, true);
        Probe.due(what + "cursors", pad.cursors() >= 0 && pad.cursors() <= 9, true);
        Probe.due(what + "jumps", pad.jumps() >= 0 && pad.jumps() <= 10, true);
        Probe.due(what + "states", pad.state() >= 0 && pad.state() < pad.states() && pad.states() <= 99, true);
        Probe.due(what + "agrees", pad.agrees(), true);
        for (int row = 0; row < pad.lines(); row++) {
            Probe.due(what + "length", pad.length(row) <= 60, true);
            int fold = pad.foldOf(row);
            Probe.due(what + "fold", fold == -1 || fold / 100 <= row && row <= fold % 100, true);
        }
        if (pad.mode() != ModalPad.INSERT && pad.foldOf(line) != -1) {
            Probe.due(what + "the cursor in a closed fold", pad.foldOf(line) / 100, line);
        }
        for (int i = 0; i < pad.cursors(); i++) {
            Probe.due(what + "a further one", pad.cursorAt(i) / 100 < pad.lines(), true);
            Probe.due(what + "in their order", i == 0 || pad.cursorAt(i) > pad.cursorAt(i - 1), true);
        }
        for (char letter = 'a'; letter <= 'z'; letter++) {
            Probe.due(what + "mark", pad.mark(letter) / 100 < pad.lines(), true);
        }
        for (int state = 0; state < pad.states(); state++) {
            Probe.due(what + "parent", pad.parent(state) < state && (pad.parent(state) >= 0 || state == 0), true);
        }
    }

    /** Two pads that are given the same answer the same, also if one of them is asked more often. */
    private static void sameAnswers() {
        ModalPad one = Probe.pad("a b\nc d");
        ModalPad other = Probe.pad("a b\nc d");
        Random keys = new Random(5);
        for (int i = 0; i < 100; i++) {
            long typed = someKeys(keys);
            Probe.due("call " + i, one.keys(typed), other.keys(typed));
            Probe.due("agrees " + i, one.agrees(), true);
        }
        Probe.due("text", Probe.text(one), Probe.text(other));
        Probe.due("taken", one.taken(), other.taken());
    }
}
