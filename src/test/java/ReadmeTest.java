/** What README.md tells: the calls of its example, and the list of what calls throw. */
public final class ReadmeTest {
    public static void main(String[] args) {
        example();
        thrown();
        neverThrown();
        Probe.end();
    }

    private static void example() {
        ModalPad pad = new ModalPad();
        Probe.due("feed", pad.feed(0x207920780a656e6fL), 8);
        Probe.due("feed once more", pad.feed(0x7aL), 9);
        Probe.due("load", pad.load(), 2);
        Probe.due("the text", Probe.text(pad), "one\nx y z");
        Probe.due("d w j", pad.keys(0x6a7764L), 0);
        Probe.due("behind d w j", Probe.text(pad), "\nx y z");
        Probe.due("the register", pad.registerKind('-'), 1);
        Probe.due("its signs", Probe.register(pad, '-'), "1:one");
        Probe.due("x k k", pad.keys(0x6b6b78L), 1);
        Probe.due("behind x k k", Probe.text(pad), "\n y z");
        Probe.due("map", pad.map(ModalPad.NORMAL, 0x515aL, 0x64646aL, false), 1);
        Probe.due("Z", pad.keys(0x5aL), 0);
        Probe.due("Z waits", pad.waiting(), 1);
        Probe.due("Q", pad.keys(0x51L), 0);
        Probe.due("behind Z Q", pad.lines(), 1);
        Probe.due("Z once more", pad.keys(0x5aL), 0);
        Probe.due("tick", pad.tick(5), 1);
        Probe.due("failures", pad.failures(), 2);
        Probe.due("agrees", pad.agrees(), true);
    }

    private static void thrown() {
        ModalPad pad = Probe.pad("ab");
        throwing("feed of another byte", () -> pad.feed(9L), "IllegalArgumentException");
        throwing("tick", () -> pad.tick(0), "IllegalArgumentException");
        throwing("map", () -> pad.map(3, 'a', 0L, true), "IllegalArgumentException");
        throwing("unmap", () -> pad.unmap(0, 0L), "IllegalArgumentException");
        throwing("unmap of none", () -> pad.unmap(0, 'a'), "IllegalStateException");
        throwing("length", () -> pad.length(1), "IndexOutOfBoundsException");
        throwing("sign", () -> pad.sign(0, 2), "IndexOutOfBoundsException");
        throwing("foldOf", () -> pad.foldOf(1), "IndexOutOfBoundsException");
        throwing("cursorAt", () -> pad.cursorAt(0), "IndexOutOfBoundsException");
        throwing("parent", () -> pad.parent(1), "IndexOutOfBoundsException");
        throwing("registerKind", () -> pad.registerKind('_'), "IllegalArgumentException");
        throwing("registerLength", () -> pad.registerLength('A'), "IllegalArgumentException");
        throwing("registerAt", () -> pad.registerAt('_', 0), "IllegalArgumentException");
        throwing("registerAt of no place", () -> pad.registerAt('a', 0), "IndexOutOfBoundsException");
        throwing("mark", () -> pad.mark('A'), "IllegalArgumentException");
        Probe.due("an empty tape", pad.load(), 1);
        for (int i = 0; i < 75; i++) {
            pad.feed(0x0a0a0a0a0a0a0a0aL);
        }
        throwing("feed of a full tape", () -> pad.feed('a'), "IllegalStateException");
        throwing("load", pad::load, "IllegalStateException");
        for (int i = 0; i < 12; i++) {
            pad.map(ModalPad.NORMAL, 'a' + i, 0L, true);
        }
        throwing("a map too many", () -> pad.map(ModalPad.NORMAL, 'z', 0L, true), "IllegalStateException");
    }

    private static void neverThrown() {
        ModalPad pad = new ModalPad();
        Probe.due("bytes that are no keys", pad.keys(0xff80010203040506L), 0);
        Probe.due("nothing is taken", pad.taken(), 0);
        Probe.due("setWrap", pad.setWrap(false), true);
        Probe.due("setWrap once more", pad.setWrap(true), false);
    }

    private static void throwing(String what, Runnable call, String want) {
        Probe.due(what, Probe.thrown(call), want);
    }
}
