/** What the tests share: keys by their names, texts, and the count of what is wrong. */
final class Probe {
    private static final String[] NAMES = {"ESC", "ENTER", "BACK", "REDO", "RECT", "OLDER", "NEWER"};
    private static final int[] CODES = {27, 13, 8, 18, 22, 15, 9};
    private static int wrong = 0;

    private Probe() {
    }

    /** The keys of a text in which {ESC} and the like stand for keys that are no signs. */
    static int[] keys(String told) {
        int[] keys = new int[told.length()];
        int size = 0;
        for (int i = 0; i < told.length(); i++) {
            int key = told.charAt(i);
            for (int j = 0; j < NAMES.length; j++) {
                if (told.startsWith("{" + NAMES[j] + "}", i)) {
                    key = CODES[j];
                    i += NAMES[j].length() + 1;
                    break;
                }
            }
            keys[size++] = key;
        }
        return java.util.Arrays.copyOf(keys, size);
    }

    static long packed(int... codes) {
        long packed = 0;
        for (int i = 0; i < codes.length; i++) {
            packed |= (long) codes[i] << (8 * i);
        }
        return packed;
    }

    static long packed(String told) {
        return packed(keys(told));
    }

    /** Types keys; answers how many commands have failed by that. */
    static int type(ModalPad pad, String told) {
        int[] keys = keys(told);
        int failed = 0;
        for (int i = 0; i < keys.length; i += 8) {
            failed += pad.keys(packed(java.util.Arrays.copyOfRange(keys, i, Math.min(keys.length, i + 8))));
        }
        return failed;
    }

    static void feed(ModalPad pad, String text) {
        for (int i = 0; i < text.length(); i += 8) {
            pad.feed(packed(text.substring(i, Math.min(text.length(), i + 8)).chars().toArray()));
        }
    }

    /** A new pad with a text. */
    static ModalPad pad(String text) {
        ModalPad pad = new ModalPad();
        feed(pad, text);
        pad.load();
        return pad;
    }

    static String text(ModalPad pad) {
        StringBuilder text = new StringBuilder();
        for (int line = 0; line < pad.lines(); line++) {
            if (line > 0) {
                text.append('\n');
            }
            for (int column = 0; column < pad.length(line); column++) {
                text.append(pad.sign(line, column));
            }
        }
        return text.toString();
    }

    static int place(ModalPad pad) {
        return 100 * pad.line() + pad.column();
    }

    /** The further cursors, with a blank between two of them. */
    static String cursors(ModalPad pad) {
        StringBuilder told = new StringBuilder();
        for (int i = 0; i < pad.cursors(); i++) {
            told.append(i > 0 ? " " : "").append(pad.cursorAt(i));
        }
        return told.toString();
    }

    /** What a register has: its kind, and its signs. */
    static String register(ModalPad pad, char name) {
        StringBuilder told = new StringBuilder().append(pad.registerKind(name)).append(':');
        for (int i = 0; i < pad.registerLength(name); i++) {
            told.append(pad.registerAt(name, i));
        }
        return told.toString();
    }

    /** All that calls tell of what keys lead to, but for the keys and failures themselves. */
    static String standing(ModalPad pad) {
        StringBuilder told = new StringBuilder(text(pad)).append('|').append(place(pad)).append('|')
            .append(pad.mode()).append('|').append(cursors(pad)).append('|').append(pad.jumps()).append('|')
            .append(pad.folds());
        for (int line = 0; line < pad.lines(); line++) {
            told.append(',').append(pad.foldOf(line));
        }
        for (char letter = 'a'; letter <= 'z'; letter++) {
            told.append(pad.mark(letter) == ModalPad.NONE ? "" : "|" + letter + pad.mark(letter))
                .append(pad.registerKind(letter) == 0 ? "" : "|" + register(pad, letter));
        }
        for (char name : "0123456789-\"".toCharArray()) {
            told.append('|').append(register(pad, name));
        }
        told.append('|').append(pad.state()).append('/').append(pad.states());
        for (int state = 0; state < pad.states(); state++) {
            told.append(',').append(pad.parent(state));
        }
        return told.toString();
    }

    static void due(String what, Object got, Object want) {
        if (!want.equals(got)) {
            wrong++;
            System.out.println(what + " answered <" + got + ">, due is <" + want + ">");
        }
    }

    /** Types keys on a new pad with a text, and looks at the text and the cursor that come of it. */
    static ModalPad after(String text, String keys, String wantText, int wantPlace) {
        return after(text, keys, wantText, wantPlace, 0);
    }

    static ModalPad after(String text, String keys, String wantText, int wantPlace, int wantFailures) {
        ModalPad pad = pad(text);
        int failed = type(pad, keys);
        String what = "keys " + keys + " on \"" + text.replace("\n", "\\n") + "\": ";
        due(what + "failures", failed, wantFailures);
        due(what + "text", text(pad), wantText);
        due(what + "cursor", place(pad), wantPlace);
        due(what + "agrees", pad.agrees(), true);
        return pad;
    }

    /** Runs a call and tells the simple name of the exception that it throws, "" for none. */
    static String thrown(Runnable call) {
        try {
            call.run();
            return "";
        } catch (RuntimeException e) {
            return e.getClass().getSimpleName();
        }
    }

    static void end() {
        System.out.println(wrong == 0 ? "all answers are as due" : wrong + " answers are not as due");
        if (wrong != 0) {
            System.exit(1);
        }
    }
}
