/** Promises 1 to 3 and 9 to 11: a new object, the tape, texts that are loaded. */
public final class TextTest {
    public static void main(String[] args) {
        newObject();
        feeding();
        loading();
        Probe.end();
    }

    private static void newObject() {
        ModalPad pad = new ModalPad();
        Probe.due("lines of a new one", pad.lines(), 1);
        Probe.due("length of its line", pad.length(0), 0);
        Probe.due("mode", pad.mode(), ModalPad.NORMAL);
        Probe.due("place", Probe.place(pad), 0);
        Probe.due("given", pad.given(), 0);
        Probe.due("waiting", pad.waiting(), 0);
        Probe.due("cursors", pad.cursors(), 0);
        Probe.due("folds", pad.folds(), 0);
        Probe.due("jumps", pad.jumps(), 0);
        Probe.due("state", pad.state(), 0);
        Probe.due("states", pad.states(), 1);
        Probe.due("parent", pad.parent(0), ModalPad.NONE);
        Probe.due("failures", pad.failures(), 0);
        Probe.due("taken", pad.taken(), 0);
        Probe.due("agrees", pad.agrees(), true);
        for (char name : "abcdefghijklmnopqrstuvwxyz0123456789-\"".toCharArray()) {
            Probe.due("register " + name, Probe.register(pad, name), "0:");
        }
        for (char letter = 'a'; letter <= 'z'; letter++) {
            Probe.due("mark " + letter, pad.mark(letter), ModalPad.NONE);
        }
        Probe.due("WRAP was on", pad.setWrap(false), true);
        Probe.due("the tape is empty", pad.feed(0), 0);
        Probe.due("there are no maps", pad.map(ModalPad.NORMAL, 'a', 0, false), 1);
    }

    private static void feeding() {
        ModalPad pad = new ModalPad();
        Probe.due("feed leaves 0 out", pad.feed(Probe.packed('a', 0, 'b', 0, 0, 10)), 3);
        Probe.due("feed of eight", pad.feed(Probe.packed("~ 345678")), 11);
        for (int code : new int[] {1, 9, 11, 13, 27, 31, 127, 128, 200, 255}) {
            Probe.due("feed " + code, Probe.thrown(() -> pad.feed(Probe.packed('a', code))),
                "IllegalArgumentException");
            Probe.due("feed " + code + " last", Probe.thrown(() -> pad.feed((long) code << 56)),
                "IllegalArgumentException");
        }
        Probe.due("nothing was put", pad.feed(0), 11);
        for (int i = 0; i < 73; i++) {
            pad.feed(Probe.packed("12345678"));
        }
        Probe.due("full but for 5", pad.feed(0), 595);
        Probe.due("too many", Probe.thrown(() -> pad.feed(Probe.packed("123456"))), "IllegalStateException");
        Probe.due("wrong ones and too many", Probe.thrown(() -> pad.feed(Probe.packed(1, 2, 3, 4, 5, 6))),
            "IllegalArgumentException");
        Probe.due("as many as can be", pad.feed(Probe.packed("12345")), 600);
        Probe.due("nothing more", pad.feed(0), 600);
        Probe.due("one more", Probe.thrown(() -> pad.feed('x')), "IllegalStateException");
    }

    private static void loading() {
        ModalPad pad = new ModalPad();
        Probe.due("an empty tape", pad.load(), 1);
        Probe.feed(pad, "one\n\ntwo\n");
        Probe.due("line ends", pad.load(), 4);
        Probe.due("text", Probe.text(pad), "one\n\ntwo\n");
        Probe.due("the tape is empty", pad.feed(0), 0);
        Probe.feed(pad, "u\nv\nw\nx\ny");
        pad.load();
        Probe.due("nothing of an earlier text is left", Probe.text(pad), "u\nv\nw\nx\ny");
        Probe.feed(pad, "a\nabc");
        pad.load();
        Probe.type(pad, "j$");
        Probe.feed(pad, "a\nabc");
        pad.load();
        Probe.type(pad, "j");
        Probe.due("column 0 is the wanted one", Probe.place(pad), 100);
        Probe.feed(pad, "x".repeat(60) + "\n" + "y".repeat(60));
        Probe.due("60 signs", pad.load(), 2);
        Probe.feed(pad, "\n".repeat(39));
        Probe.due("40 lines", pad.load(), 40);
        Probe.feed(pad, "z".repeat(61));
        Probe.due("61 signs", Probe.thrown(pad::load), "IllegalStateException");
        Probe.due("the text stays", pad.lines(), 40);
        Probe.due("the tape stays", pad.feed(0), 61);
        ModalPad other = new ModalPad();
        Probe.feed(other, "\n".repeat(40));
        Probe.due("41 lines", Probe.thrown(other::load), "IllegalStateException");
        Probe.due("lines stay", other.lines(), 1);
        for (int line : new int[] {-1, 40, Integer.MIN_VALUE, Integer.MAX_VALUE}) {
            Probe.due("length of " + line, Probe.thrown(() -> pad.length(line)), "IndexOutOfBoundsException");
            Probe.due("sign in " + line, Probe.thrown(() -> pad.sign(line, 0)), "IndexOutOfBoundsException");
        }
        ModalPad third = Probe.pad("ab");
        Probe.due("sign", third.sign(0, 1), 'b');
        for (int column : new int[] {-1, 2, Integer.MIN_VALUE, Integer.MAX_VALUE}) {
            Probe.due("sign at " + column, Probe.thrown(() -> third.sign(0, column)), "IndexOutOfBoundsException");
        }
    }
}
