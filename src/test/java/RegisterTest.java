/** Registers, p and P (promises 4, 19 to 21). */
public final class RegisterTest {
    public static void main(String[] args) {
        written();
        appended();
        numbered();
        puttingSigns();
        puttingLines();
        puttingRows();
        puttingFails();
        wrongInputs();
        Probe.end();
    }

    private static void holds(ModalPad pad, String name, String want) {
        for (char c : name.toCharArray()) {
            Probe.due("register " + c, Probe.register(pad, c), want);
        }
    }

    private static void written() {
        ModalPad pad = Probe.pad("foo bar\nbaz\nx");
        Probe.type(pad, "yw");
        holds(pad, "\"0", "1:foo ");
        holds(pad, "-1a", "0:");
        Probe.type(pad, "wdw");
        holds(pad, "\"-", "1:bar");
        holds(pad, "0", "1:foo ");
        holds(pad, "1", "0:");
        Probe.type(pad, "\"cyy");
        holds(pad, "c\"", "2:foo \n");
        holds(pad, "0", "1:foo ");
        Probe.type(pad, "\"cdl");
        holds(pad, "c\"", "1: ");
        holds(pad, "-", "1:bar");
        Probe.type(pad, "\"_dl\"_cc{ESC}");
        holds(pad, "c\"", "1: ");
        holds(pad, "-", "1:bar");
        holds(pad, "1", "0:");
        Probe.type(pad, "\"\"yj");
        holds(pad, "0\"", "2:\nbaz\n");
        Probe.type(pad, "j\"5yl\"-yl\"0xx");
        holds(pad, "5", "1:b");
        holds(pad, "0", "1:b");
        holds(pad, "-\"", "1:a");
        Probe.due("agrees", pad.agrees(), true);
        Probe.due("no failure", pad.failures(), 0);
        pad = Probe.pad("ab\ncd");
        Probe.type(pad, "vjy");
        holds(pad, "0\"", "1:ab\nc");
        Probe.type(pad, "cwx{ESC}");
        holds(pad, "-\"", "1:ab");
    }

    private static void appended() {
        ModalPad pad = Probe.pad("foo bar\nbaz\nx");
        Probe.type(pad, "\"Ayw");
        holds(pad, "a\"", "1:foo ");
        Probe.type(pad, "w\"Ayw");
        holds(pad, "a", "1:foo bar");
        holds(pad, "\"", "1:bar");
        holds(pad, "0", "0:");
        Probe.type(pad, "j\"Ayy");
        holds(pad, "a", "2:foo bar\nbaz\n");
        holds(pad, "\"", "2:baz\n");
        Probe.type(pad, "0\"Ayl");
        holds(pad, "a", "2:foo bar\nbaz\nb\n");
        Probe.type(pad, "gg{RECT}j\"Ay");
        holds(pad, "a", "2:foo bar\nbaz\nb\nf\nb\n");
        Probe.type(pad, "{RECT}j\"by{RECT}jl\"By");
        holds(pad, "b", "2:f\nb\nfo\nba\n");
        Probe.type(pad, "{RECT}j\"Cy");
        holds(pad, "c", "3:f\nb\n");
        Probe.type(pad, "\"Cyl");
        holds(pad, "c", "2:f\nb\nf\n");
        Probe.type(pad, "\"dyl{RECT}j\"Dy");
        holds(pad, "d", "2:f\nf\nb\n");
        Probe.due("no failure", pad.failures(), 0);
        // 3000 signs at most
        pad = Probe.pad("x".repeat(59));
        Probe.type(pad, "\"ayy\"a40p");
        Probe.due("no failure yet", pad.failures(), 1);
        Probe.type(pad, "39pgg\"ayG");
        Probe.due("40 lines", pad.registerLength('a'), 40 * 60);
        Probe.due("10 lines more", Probe.type(pad, "\"A10yy"), 0);
        Probe.due("3000 signs", pad.registerLength('a'), 3000);
        Probe.due("one more fails", Probe.type(pad, "\"Ayl"), 1);
        Probe.due("so does d", Probe.type(pad, "\"Add"), 1);
        Probe.due("nothing changes", pad.lines() * 10000 + pad.registerLength('a'), 403000);
        Probe.due("nor in the unnamed one", pad.registerLength('"'), 600);
        Probe.due("a register of signs", Probe.type(pad, "\"cyl\"C10yy"), 0);
        Probe.due("with a line end", pad.registerLength('c'), 602);
        Probe.due("39 lines more", Probe.type(pad, "gg\"C39yy"), 0);
        Probe.due("and one too many", Probe.type(pad, "\"Cyy"), 1);
        for (int i = 0; i < 29; i++) {
            Probe.due("a sign as a line", Probe.type(pad, "\"Cyl"), 0);
        }
        Probe.due("3000 signs", pad.registerLength('c'), 3000);
        Probe.due("one more", Probe.type(pad, "\"Cyl"), 1);
        pad = Probe.pad("x".repeat(59));
        Probe.type(pad, "yy39pgg\"dy2l\"D10yy\"D39yy");
        for (int i = 0; i < 28; i++) {
            Probe.due("a sign as a line", Probe.type(pad, "\"Dyl"), 0);
        }
        Probe.due("2999 signs", pad.registerLength('d'), 2999);
        Probe.due("one more, and a line end", Probe.type(pad, "\"Dyl"), 1);
        // 3000 signs, line ends within them, but none between what is of signs
        pad = Probe.pad("x".repeat(59));
        Probe.type(pad, "yy39pgg0v39j\"zy");
        Probe.due("39 lines, and a sign behind them", pad.registerLength('z'), 39 * 60 + 1);
        Probe.type(pad, "gg0v10j\"Zy");
        for (int i = 0; i < 58; i++) {
            Probe.due("a sign more", Probe.type(pad, "\"Zyl"), 0);
        }
        Probe.due("3000 signs", pad.registerKind('z') * 10000 + pad.registerLength('z'), 13000);
        Probe.due("3001 signs", Probe.type(pad, "\"Zyl"), 1);
        pad = Probe.pad("ab");
        Probe.type(pad, "\"zyl\"Zyl");
        holds(pad, "z", "1:aa");
    }

    private static void numbered() {
        ModalPad pad = Probe.pad("a\nb\nc\nd\ne\nf\ng\nh\ni\nj\nk\nl m");
        Probe.type(pad, "dddddddddddddddddddd");
        for (int i = 1; i <= 9; i++) {
            holds(pad, "" + i, "2:" + (char) ('j' + 1 - i) + "\n");
        }
        Probe.type(pad, "dwjxD");
        holds(pad, "1", "2:j\n");
        holds(pad, "-", "1: m");
        Probe.type(pad, "kdj");
        holds(pad, "1", "2:\n\n");
        holds(pad, "2", "2:j\n");
        holds(pad, "9", "2:c\n");
        pad = Probe.pad("ab\ncd\nef");
        Probe.type(pad, "ld2$");
        holds(pad, "1", "1:b\ncd");
        Probe.type(pad, "{RECT}jd");
        holds(pad, "1", "3:a\ne\n");
        holds(pad, "2", "1:b\ncd");
        Probe.type(pad, "G{RECT}d");
        holds(pad, "-", "3:f\n");
        Probe.due("no failure", pad.failures(), 0);
    }

    private static void puttingSigns() {
        Probe.after("ab cd", "ywwp", "ab cab d", 6);
        Probe.after("ab cd", "ywwP", "ab ab cd", 5);
        Probe.after("ab cd", "yw$p", "ab cdab ", 7);
        Probe.after("ab cd", "yl3p", "aaaab cd", 3);
        Probe.after("ab cd", "yl3P", "aaaab cd", 2);
        Probe.after("ab\n", "yljp", "ab\na", 100);
        Probe.after("ab\n", "yljP", "ab\na", 100);
        Probe.after("ab\ncd\nxy", "lvjyGp", "ab\ncd\nxb\ncdy", 201);
        Probe.after("ab\ncd\nxy", "lvjyG2p", "ab\ncd\nxb\ncdb\ncdy", 201);
        Probe.after("ab\ncd\nxy", "lvjyG$P", "ab\ncd\nxb\ncdy", 201);
        Probe.after("ab", "\"ayl\"bp", "ab", 0, 1);
        Probe.after("ab", "\"ayl\"Ap", "aab", 1);
        Probe.after("ab", "yl\"0p\"-p", "aab", 1, 1);
        Probe.after("x".repeat(40), "yl20p", "x".repeat(60), 20);
        Probe.after("x", "yl59p", "x".repeat(60), 59);
        Probe.after("ab\n" + "x".repeat(60) + "\n", "vj$yGp",
            "ab\n" + "x".repeat(60) + "\nab\n" + "x".repeat(60), 200);
        Probe.after("x".repeat(40), "yl21p", "x".repeat(40), 0, 1);
        // the rest of the line goes to the last one of the lines that are put
        String wide = "w".repeat(50);
        Probe.after(wide + "\nab\n" + "z".repeat(20), "vjyGP",
            wide + "\nab\n" + wide + "\na" + "z".repeat(20), 200);
                Probe.after("a\nb\nc", "vjyG2P", "a\nb\na\nba\nbc", 200);
    }

    private static void puttingLines() {
        Probe.after("  a\nb\nc", "yyjp", "  a\nb\n  a\nc", 202);
        Probe.after("  a\nb\nc", "yyjP", "  a\n  a\nb\nc", 102);
        Probe.after("  a\nb\nc", "yjG2p", "  a\nb\nc\n  a\nb\n  a\nb", 302);
        Probe.after("a\nb", "2yyGp", "a\nb\na\nb", 200);
        Probe.after("", "yyp", "\n", 100);
        Probe.after("x".repeat(60), "yyp", "x".repeat(60) + "\n" + "x".repeat(60), 100);
        Probe.after("a\nb", "vjy38p", "a" + "a\nb".repeat(38) + "\nb", 1);
        Probe.after("a\nb", "vjy39p", "a\nb", 0, 1);
        Probe.after("a", "yy39p", "a\n".repeat(39) + "a", 100);
        Probe.after("a", "yy40p", "a", 0, 1);
    }

    private static void puttingRows() {
        String text = "abc\nd\nefg\nhi";
        Probe.after(text, "l{RECT}jjlyGp", "abc\nd\nefg\nhbci\n   \n fg", 301);
        Probe.after(text, "{RECT}jjly$p", "abcab\nd  d \nefgef\nhi", 3);
        Probe.after(text, "{RECT}jjlyP", "ababc\nd d\nefefg\nhi", 0);
        Probe.after(text, "{RECT}jjlygg2P", "abababc\nd d d\nefefefg\nhi", 0);
        Probe.after("ab\n", "{RECT}yjp", "ab\na", 100);
        String ten = "abcdefghij\n" + "x".repeat(50);
        Probe.after(ten, "{RECT}$yj$p", ten + "abcdefghij", 150);
        Probe.after(ten + "x", "{RECT}$yj$p", ten + "x", 150, 1);
        Probe.after("ab\ncd\n\n", "{RECT}jyGp", "ab\ncd\n\na\nc", 300);
        String wide = "x".repeat(58);
        Probe.after("ab\ncd\n" + wide + "\n" + wide, "{RECT}jlyjjP", "ab\ncd\nab" + wide + "\ncd" + wide, 200);
        Probe.after("ab\ncd\n" + wide + "\nx" + wide, "{RECT}jlyjjP", "ab\ncd\n" + wide + "\nx" + wide, 200, 1);
        Probe.after("ab\ncd\n" + wide, "{RECT}jlyjj2p", "ab\ncd\n" + wide, 200, 1);
        String forty = "ab" + "\n".repeat(39);
        Probe.after(forty, "{RECT}jyGp", forty, 3900, 1);
        Probe.after(forty, "{RECT}yGp", forty + "a", 3900);
    }

    private static void puttingFails() {
        Probe.after("ab", "p", "ab", 0, 1);
        Probe.after("ab", "\"_p", "ab", 0, 1);
        Probe.after("ab", "qal{ESC}q\"ap", "ab", 1, 1);
        Probe.after("ab", "qaix{ENTER}{ESC}q\"ap", "x\nab", 100, 1);
        Probe.after("ab", "qa{ESC}lq\"ap", "ab", 1, 1);
        Probe.after("ab", "qalhq0\"ap", "alhb", 2);
        Probe.after("ab", "qa/b{ENTER}q0\"ap", "a/b\nb", 1);
    }

    private static void wrongInputs() {
        ModalPad pad = Probe.pad("ab");
        Probe.type(pad, "\"ayl");
        for (char name : new char[] {'A', 'Z', '_', ' ', '/', ':', '`', '{', 0, (char) 200, (char) 0xff41}) {
            Probe.due("kind of " + (int) name, Probe.thrown(() -> pad.registerKind(name)),
                "IllegalArgumentException");
            Probe.due("length of " + (int) name, Probe.thrown(() -> pad.registerLength(name)),
                "IllegalArgumentException");
            Probe.due("sign of " + (int) name, Probe.thrown(() -> pad.registerAt(name, 0)),
                "IllegalArgumentException");
            Probe.due("no sign of " + (int) name, Probe.thrown(() -> pad.registerAt(name, -1)),
                "IllegalArgumentException");
        }
        Probe.due("sign", pad.registerAt('a', 0), 'a');
        for (int place : new int[] {-1, 1, Integer.MIN_VALUE, Integer.MAX_VALUE}) {
            Probe.due("place " + place, Probe.thrown(() -> pad.registerAt('a', place)), "IndexOutOfBoundsException");
        }
        Probe.due("an empty one", Probe.thrown(() -> pad.registerAt('b', 0)), "IndexOutOfBoundsException");
    }
}
