/** Command lines (promises 4, 14, 15). */
public final class LineTest {
    public static void main(String[] args) {
        typing();
        ranges();
        deletingAndYanking();
        shiftingAndJoining();
        moving();
        sorting();
        substituting();
        keysForLines();
        global();
        globalOfKeys();
        oneBehindAnother();
        failing();
        Probe.end();
    }

    private static void typing() {
        ModalPad pad = Probe.pad("ab\ncd");
        Probe.type(pad, ":");
        Probe.due("mode", pad.mode() * 100 + pad.given(), 100 * ModalPad.LINE);
        Probe.type(pad, "2dx{BACK}{REDO}{RECT}{OLDER}{NEWER}");
        Probe.due("given", pad.given(), 2);
        Probe.type(pad, "{ENTER}");
        Probe.due("text", Probe.text(pad) + pad.mode() + pad.given(), "ab00");
        Probe.type(pad, ":d{ESC}");
        Probe.due("ESC", Probe.text(pad) + pad.mode() + pad.given(), "ab00");
        Probe.type(pad, ":d{BACK}");
        Probe.due("BACK", pad.mode() * 10 + pad.given(), 50);
        Probe.type(pad, "{BACK}");
        Probe.due("BACK ends it", pad.mode(), ModalPad.NORMAL);
        Probe.due("no failure", pad.failures(), 0);
        Probe.type(pad, ":n" + "0".repeat(70));
        Probe.due("60 signs", pad.given(), 60);
        Probe.due("which are done", Probe.type(pad, "{ENTER}"), 0);
        Probe.due("taken", pad.taken(), 1 + 8 + 1 + 3 + 3 + 1 + 72 + 1);
        Probe.after("ab\ncd", "3:d{ENTER}", "cd", 0);
        Probe.due("agrees", pad.agrees(), true);
    }

    private static void ranges() {
        String text = "a\nb\nc\nd";
        Probe.after(text, ":d{ENTER}", "b\nc\nd", 0);
        Probe.after(text, "j:d{ENTER}", "a\nc\nd", 100);
        Probe.after(text, ":%d{ENTER}", "", 0);
        Probe.after(text, "G:%d{ENTER}", "", 0);
        Probe.after("\n".repeat(9) + "a\nb\n", ":10d{ENTER}", "\n".repeat(9) + "b\n", 900);
        Probe.after("\n".repeat(8) + "a\nb\n", ":9d{ENTER}", "\n".repeat(8) + "b\n", 800);
        Probe.after(text, ":3d{ENTER}", "a\nb\nd", 200);
        Probe.after(text, ":2,3d{ENTER}", "a\nd", 100);
        Probe.after(text, "j:.,$d{ENTER}", "a", 0);
        Probe.after(text, "jma2j:'a,.d{ENTER}", "a", 0);
        Probe.after(text, ":$d{ENTER}", "a\nb\nc", 200);
        Probe.after(text, ":003d{ENTER}", "a\nb\nd", 200);
        String[] bad = {"3,2d", "5d", "0d", "1,5d", "'ad", "'Ad", "'d", ",2d", "1,d", "1,,2d", "%,2d", "1%d", "0,2d", " d",
            "1 ,2d", "999999999999d", "-1d", "1;2d", "", "3", "%", "1,2", "q", "dd", "d ", "e", "yy", ">>", "x", "u"};
        for (String line : bad) {
            Probe.after(text, ":" + line + "{ENTER}", text, 0, 1);
        }
    }

    private static void deletingAndYanking() {
        ModalPad pad = Probe.after("a\n b\nc", ":2,3d{ENTER}", "a", 0);
        Probe.due("1", Probe.register(pad, '1'), "2: b\nc\n");
        Probe.due("unnamed", Probe.register(pad, '"'), "2: b\nc\n");
        pad = Probe.after("a\n b\nc", "jl:1,2y{ENTER}", "a\n b\nc", 101);
        Probe.due("0", Probe.register(pad, '0'), "2:a\n b\n");
        Probe.after("abcd\nef\nabcd", "3l:y{ENTER}j:y{ENTER}j", "abcd\nef\nabcd", 203);
        Probe.after("a\n b\nc", "\"a:1d{ENTER}\"1p\"ap", " b\na\nc", 100, 1);
    }

    private static void shiftingAndJoining() {
        Probe.after("a\n b\n\nc", ":1,3>{ENTER}", "  a\n   b\n\nc", 200);
        Probe.after("a\n b\n\nc", ":1,2>{ENTER}", "  a\n   b\n\nc", 103);
        Probe.after("   a\n b", ":%<{ENTER}", " a\nb", 100);
        Probe.after("a\n" + "x".repeat(59), ":%>{ENTER}", "a\n" + "x".repeat(59), 0, 1);
        Probe.after(" a\nb\n c\nd", ":1,3j{ENTER}", " a b c\nd", 1);
        Probe.after(" a\nb\n c\nd", ":2j{ENTER}", " a\nb c\nd", 100);
        Probe.after("a\nb", ":2j{ENTER}", "a\nb", 0, 1);
        Probe.after("a", ":j{ENTER}", "a", 0, 1);
    }

    private static void moving() {
        String text = "a\n b\nc\nd";
        Probe.after(text, ":1m3{ENTER}", " b\nc\na\nd", 200);
        Probe.after(text, ":1,2m${ENTER}", "c\nd\na\n b", 301);
        Probe.after(text, ":3,4m0{ENTER}", "c\nd\na\n b", 100);
        Probe.after(text, ":4m1{ENTER}", "a\nd\n b\nc", 100);
        Probe.after(text, "j:m.{ENTER}", text, 101);
        Probe.after(text, ":2,3m1{ENTER}", text, 200);
        Probe.after(text, ":2,3m3{ENTER}", text, 200);
        Probe.after(text, ":2,3m2{ENTER}", text, 0, 1);
        Probe.after(text, ":%m0{ENTER}", text, 300);
        Probe.after(text, ":1m9{ENTER}", text, 0, 1);
        Probe.after(text, ":1m{ENTER}", text, 0, 1);
        Probe.after(text, ":1m2x{ENTER}", text, 0, 1);
        Probe.after(text, "Gmagg:m'a{ENTER}", " b\nc\nd\na", 300);
        // lines that stay where they are are not taken out
        ModalPad pad = Probe.after(text, "jmaggzf2j:2,3m1{ENTER}", text, 0);
        Probe.due("mark and fold", pad.mark('a') * 10 + pad.folds(), 1001);
        pad = Probe.after(text, "jma:2m3{ENTER}", "a\nc\n b\nd", 201);
        Probe.due("but others are", pad.mark('a'), ModalPad.NONE);
    }

    private static void sorting() {
        Probe.after("b\nab\na\n\nB", ":%sort{ENTER}", "\nB\na\nab\nb", 400);
        Probe.after("c\nb\na", ":2,3sort{ENTER}", "c\na\nb", 200);
        Probe.after("a\nb\nc", ":%sort{ENTER}", "a\nb\nc", 200);
        Probe.after("abc\nabb\nab\naba", ":%sort{ENTER}", "ab\naba\nabb\nabc", 300);
        Probe.after("x\nabc\nabb\nab\naba", ":2,$sort{ENTER}", "x\nab\naba\nabb\nabc", 400);
        // a sign that was taken away is not looked at
        Probe.after("abz\nabc", "$x:%sort{ENTER}", "ab\nabc", 100);
        for (String line : new String[] {"sabc", "soxx", "sorx", "sxrt", "soxt", "sor", "sorts", "so", "s"}) {
            Probe.after("b\na", ":%" + line + "{ENTER}", "b\na", 0, 1);
        }
        ModalPad pad = Probe.after("a\nb\nb\nc", "jma:%sort{ENTER}", "a\nb\nb\nc", 300);
        Probe.due("nothing is taken out", pad.mark('a'), 100);
        pad = Probe.after("x\nc\nb\nq", "jma2jmb:2,3sort{ENTER}", "x\nb\nc\nq", 200);
        Probe.due("but no others", pad.mark('a') * 1000 + pad.mark('b'), -1000 + 300);
        pad = Probe.after("b\na\nc\nd", "2jmajmb:1,3sort{ENTER}", "a\nb\nc\nd", 200);
        Probe.due("all of them are", pad.mark('a') * 1000 + pad.mark('b'), -1000 + 300);
    }

    private static void substituting() {
        Probe.after("foo foo\nbar\n foo", ":%s/foo/x/{ENTER}", "x foo\nbar\n x", 201);
        Probe.after("foo foo\nbar\n foo", ":%s/foo/x/g{ENTER}", "x x\nbar\n x", 201);
        Probe.after("foo foo\nbar\n foo", ":1,2s/foo//{ENTER}", " foo\nbar\n foo", 1);
        Probe.after("aaaa", ":s/aa/b/{ENTER}", "baa", 0);
        Probe.after("aaaaa", ":s/aa/b/g{ENTER}", "bba", 0);
        Probe.after("aa", ":s/a/aa/g{ENTER}", "aaaa", 0);
        Probe.after("a\na\nb", ":%s/a/a/{ENTER}", "a\na\nb", 100);
        Probe.after("a.b", ":s/././{ENTER}", "a.b", 0);
        Probe.after("abc", ":s/./x/{ENTER}", "abc", 0, 1);
        Probe.after("a b", ":s/ /{ENTER}", "a b", 0, 1);
        Probe.after("a b", ":s/a/b{ENTER}", "a b", 0, 1);
        Probe.after("a b", ":s//b/{ENTER}", "a b", 0, 1);
        Probe.after("a b", ":s/a/b/gg{ENTER}", "a b", 0, 1);
        Probe.after("a b", ":s/a/b/x{ENTER}", "a b", 0, 1);
        Probe.after("a b", ":s/a/b/c/{ENTER}", "a b", 0, 1);
        Probe.after("x".repeat(59) + "\nx", ":%s/x/xx/{ENTER}", "x".repeat(60) + "\nxx", 100);
        Probe.after("y\n" + "x".repeat(59) + "y", ":%s/y/yy/{ENTER}", "y\n" + "x".repeat(59) + "y", 0, 1);
    }

    private static void keysForLines() {
        Probe.after("ab\ncd\nef", ":%nx{ENTER}", "b\nd\nf", 200);
        Probe.after("ab\ncd\nef", "Gl:1,2nA!{ENTER}", "ab!\ncd!\nef", 102);
        Probe.after("ab\ncd\nef", ":2n$x{ENTER}", "ab\nc\nef", 100);
        Probe.after("ab\ncd\nef", ":n2d{ENTER}", "ab\ncd\nef", 0);
        Probe.after("ab\ncd\nef", ":%nd{ENTER}", "ab\ncd\nef", 200);
        Probe.after("ab\ncd\nef\ngh", ":%ndj{ENTER}", "", 0);
        Probe.after("ab\ncd\nef", ":%ndj{ENTER}", "ef", 0, 1);
        Probe.after("ab\ncd\nef", ":%nx{ENTER}u", "ab\ncd\nef", 0);
        Probe.after("ab\ncd\nef", ":%nxu{ENTER}", "b\ncd\nef", 0, 1);
        Probe.after("a\nb\nc", ":%nyyP{ENTER}", "a\na\nb\nb\nc\nc", 400);
        Probe.after("a\nb\nc", ":%nyyp{ENTER}", "a\na\nb\nb\nc\nc", 500);
        Probe.after("a\nb\nc\nd", ":1,2nddp{ENTER}", "a\nb\nc\nd", 100);
        ModalPad pad = Probe.after("ab\ncd", ":nvj{ENTER}", "ab\ncd", 100);
        Probe.due("ESC ends a selection", pad.mode(), ModalPad.NORMAL);
        pad = Probe.after("ab\ncd", ":nv\"a{ENTER}", "ab\ncd", 0);
        Probe.due("and what is given in it", pad.mode() * 10 + pad.given(), 0);
        pad = Probe.after("ab\ncd", ":n:d{ENTER}", "ab\ncd", 0);
        Probe.due("and a command line", pad.mode(), ModalPad.NORMAL);
        Probe.after("ab\ncd", ":%n2ix{ENTER}", "xxab\nxxcd", 101);
        Probe.after("ab\ncd", ":%nix{ENTER}$.", "xab\nxcxd", 102);
        Probe.after("ab\ncd", ":n{ENTER}", "ab\ncd", 0, 1);
        Probe.after("a\nb\nc\nd", "jzfjk:%nx{ENTER}", "\n\nc\nd", 100, 1);
        Probe.after("ab\nb\nc\nd", "jzfjgg:2,3nyyp{ENTER}", "ab\nb\nc\nb\nc\nb\nc\nd", 300);
        // 100 keys
        pad = Probe.pad("\n".repeat(39));
        Probe.due("80 keys", Probe.type(pad, ":%ngg{ENTER}"), 0);
        Probe.due("120 keys", Probe.type(pad, ":%n0gg{ENTER}"), 1);
        Probe.due("100 of them", pad.line(), 33);
    }

    private static void global() {
        String text = "a1\nb\na2\nb\na3";
        Probe.after(text, ":g/a/d{ENTER}", "b\nb", 100);
        Probe.after(text, ":2,4g/a/d{ENTER}", "a1\nb\nb\na3", 200);
        Probe.after(text, ":%g/a/m0{ENTER}", "a3\na2\na1\nb\nb", 0);
        Probe.after(text, ":g/a/m${ENTER}", "b\nb\na1\na2\na3", 400);
        Probe.after(text, ":g/a/>{ENTER}", "  a1\nb\n  a2\nb\n  a3", 402);
        Probe.after("  a\nb\n a", ":g/a/<{ENTER}", "a\nb\na", 200);
        Probe.after(text, ":g/b/j{ENTER}", "a1\nb a2\nb a3", 200);
        Probe.after(text, ":g/a/j{ENTER}", "a1 b\na2 b\na3", 100, 1);
        Probe.after(text, ":g/a/s/a/xy/{ENTER}", "xy1\nb\nxy2\nb\nxy3", 400);
        Probe.after(text, ":g/a/s/2/x/{ENTER}", text, 0, 1);
        Probe.after("ab\na\nab", ":g/a/s/b/x/{ENTER}", "ax\na\nab", 0, 1);
        Probe.after("a\nab\nb\na", ":g/a/j{ENTER}", "a ab\nb\na", 0, 1);
        // one change
        ModalPad pad = Probe.after(text, ":g/a/d{ENTER}u", text, 0);
        Probe.due("states", pad.states(), 2);
        String[] bad = {"g/q/d", "g/a/", "g/a/y", "g/a/sort", "g/a/g/a/d", "g/a/2d", "g/a", "g//d", "ga", "g/a/dd",
            "g/a/s/a/b", "g/a/n", "g/a/m9", "3,2g/a/d", "g/a/x", "g"};
        for (String line : bad) {
            Probe.after(text, ":" + line + "{ENTER}", text, 0, 1);
        }
    }

    private static void globalOfKeys() {
        String text = "a1\nb\na2\nb\na3";
        Probe.after(text, ":g/a/nx{ENTER}", "1\nb\n2\nb\n3", 400);
        Probe.after(text, ":g/a/ndj{ENTER}", "a3", 0, 1);
        Probe.after(text, ":2,4g/a/nA!{ENTER}", "a1\nb\na2!\nb\na3", 202);
        Probe.after(text, ":g/a/nxxx{ENTER}", "\nb\na2\nb\na3", 0, 1);
        Probe.after("a\nb\na", "qzxqu:g/a/n@zij{ENTER}", "j\nb\nj", 200);
        Probe.after("x/y\nz", ":g/x/ns/{ENTER}", "//y\nz", 0);
        // n by g begins for each line, and leaves one cursor then; n for several lines begins once
        Probe.after("xa\nxb\nq1\nq2", "/q{ENTER}:g/x/nxgm{ENTER}", "a\nb\nq1\nq2", 200);
        Probe.after("xa\nxb\nq1\nq2", "/q{ENTER}:1,2nxgm{ENTER}", "a\nb\nq1\n2", 200);
        ModalPad pad = Probe.after("xa\nxb\nxq", "/q{ENTER}:g/x/ngml{ENTER}", "xa\nxb\nxq", 201, 1);
        Probe.due("cursors", pad.cursors(), 0);
        pad = Probe.after("qa\nqb\nqc\nd", "/q{ENTER}:g/q/nxgm{ENTER}", "a\nb\nc\nd", 200, 1);
        Probe.due("the last one found none", pad.cursors(), 0);
        pad = Probe.after("xa\nxb\nq1\nq2", "/q{ENTER}:g/x/ngm{ENTER}", "xa\nxb\nq1\nq2", 200);
        Probe.due("they stay behind the last one", Probe.cursors(pad), "300");
        // lines that are sorted are taken out, and not there any more
        text = "~:4,5sort\na\na\nd\nc";
        Probe.after(text, "\"ayyj:2,5n@a{ENTER}", "~:4,5sort\nA\nA\nc\nd", 400);
    }

    /** A command line knows nothing of those ahead of it. */
    private static void oneBehindAnother() {
        Probe.after("a\nb\nb a", ":g/a/d{ENTER}:s/b/c/{ENTER}", "c", 0);
        Probe.after("a\nb\nb a", ":g/a/s/a/x/{ENTER}:2d{ENTER}", "x\nb x", 100);
        Probe.after("x\na\nb\na\nb", ":1d{ENTER}G:g/a/d{ENTER}", "b\nb", 100);
        Probe.after("x\na\nb\na", "2G:%s/q/r/{ENTER}:d{ENTER}", "x\nb\na", 100, 1);
        Probe.after("aa\naa", ":%s/a/b/g{ENTER}:s/b/a/{ENTER}", "bb\nab", 100);
    }

    private static void failing() {
        ModalPad pad = Probe.pad("ab\ncd");
        Probe.due("a failure", Probe.type(pad, ":zz{ENTER}"), 1);
        Probe.due("ends LINE", pad.mode() * 10 + pad.given(), 0);
        Probe.due("failures", pad.failures(), 1);
        Probe.type(pad, "qa:nxQx{ENTER}q");
        Probe.due("what was done stays", Probe.text(pad), "b\ncd");
        Probe.due("failures", pad.failures(), 2);
        Probe.due("a state", pad.states(), 2);
        // lines that are played
        pad = Probe.pad("ab\ncd\nef");
        Probe.type(pad, "qa:d{ENTER}q");
        Probe.type(pad, "2@a");
        Probe.due("text", Probe.text(pad), "");
        Probe.due("states", pad.states(), 3);
        Probe.due("a command line is no last change", Probe.type(pad, "."), 1);
        Probe.due("agrees", pad.agrees(), true);
    }
}
