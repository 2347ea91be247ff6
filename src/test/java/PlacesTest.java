/** Marks, places of jumps, folds (promises 4, 22 to 25). */
public final class PlacesTest {
    public static void main(String[] args) {
        marks();
        jumps();
        olderAndNewer();
        jumpsThatMove();
        jumpsThatStay();
        foldsWithinOneAnother();
        foldsAreMade();
        foldsAreChanged();
        cursorInFolds();
        commandsOnFolds();
        linesOfFolds();
        loading();
        Probe.end();
    }

    private static void marks() {
        ModalPad pad = Probe.pad("abc\ndef\nghi\njkl");
        Probe.type(pad, "lmajlmbjmcgg");
        Probe.due("marks", pad.mark('a') + " " + pad.mark('b') + " " + pad.mark('c'), "1 102 202");
        Probe.type(pad, "O{ESC}");
        Probe.due("a line more", pad.mark('a') + " " + pad.mark('b') + " " + pad.mark('c'), "101 202 302");
        Probe.type(pad, "jdd");
        Probe.due("a line less", pad.mark('a') + " " + pad.mark('b') + " " + pad.mark('c'), "-1 102 202");
        Probe.type(pad, "0i12{ENTER}{ESC}");
        Probe.due("a line parted", pad.mark('b') + " " + pad.mark('c'), "102 302");
        Probe.type(pad, "kJ");
        Probe.due("joined again", pad.mark('b') + " " + pad.mark('c'), "102 202");
        Probe.type(pad, "jcc{ESC}");
        Probe.due("c leaves the first line", pad.mark('c'), 202);
        Probe.type(pad, "mz2u");
        Probe.due("other states leave them", pad.mark('b') + " " + pad.mark('c') + " " + pad.mark('z'), "102 202 200");
        Probe.type(pad, "ggdG");
        Probe.due("all are gone", pad.mark('b') + " " + pad.mark('c') + " " + pad.mark('z'), "-1 -1 -1");
        Probe.type(pad, "uGmyggdG");
        Probe.due("all of them", pad.mark('y'), ModalPad.NONE);
        pad = Probe.pad("a");
        Probe.type(pad, "yypGmakmbu");
        Probe.due("as far as lines reach", pad.mark('a') + " " + pad.mark('b'), "-1 0");
        pad = Probe.pad("a\nb");
        Probe.type(pad, "majmbggVjccx{ESC}");
        Probe.due("lines that become one", pad.mark('a') + " " + pad.mark('b'), "0 -1");
        Probe.due("agrees", pad.agrees(), true);
    }

    private static void jumps() {
        String text = "a(b)\n\nc a\nd\na";
        String[] keep = {"G", "2G", "3gg", "/a{ENTER}", "f(%", "}", "majj'a", "majj`a"};
        for (String keys : keep) {
            ModalPad pad = Probe.pad(text);
            Probe.type(pad, keys);
            Probe.due("jumps behind " + keys, pad.jumps(), 1);
        }
        String[] none = {"j", "w", "$", "fb", "dG", "y}", "Vd", "v}{ESC}", "d/c{ENTER}", "N", "vG{ESC}", "/q{ENTER}", "'b",
            "{", ":4d{ENTER}", "gm"};
        for (String keys : none) {
            ModalPad pad = Probe.pad(text);
            Probe.type(pad, keys);
            Probe.due("no jumps behind " + keys, pad.jumps(), 0);
        }
        ModalPad pad = Probe.pad(text);
        Probe.type(pad, "/a{ENTER}nnN");
        Probe.due("n and N, too", pad.jumps(), 3);
        pad = Probe.pad(text);
        Probe.type(pad, "lG0gg$G");
        Probe.due("one in a line", pad.jumps(), 2);
        Probe.type(pad, "{OLDER}{OLDER}");
        Probe.due("and that is the newest", Probe.place(pad), 3);
        pad = Probe.pad("\n".repeat(20));
        for (int i = 2; i <= 13; i++) {
            Probe.type(pad, i + "G");
        }
        Probe.due("10 at most", pad.jumps(), 10);
        Probe.due("the oldest", Probe.type(pad, "9{OLDER}"), 0);
        Probe.due("is the line 3", pad.line(), 3);
        Probe.due("none is older", Probe.type(pad, "{OLDER}"), 1);
        Probe.due("agrees", pad.agrees(), true);
    }

    private static void olderAndNewer() {
        ModalPad pad = Probe.pad("a\nb\nc\nd\ne\nf");
        Probe.due("none is older", Probe.type(pad, "{OLDER}"), 1);
        Probe.due("none is newer", Probe.type(pad, "{NEWER}"), 1);
        Probe.due("nothing is kept", pad.jumps(), 0);
        Probe.type(pad, "2G4G6Gk");
        Probe.due("jumps", pad.jumps(), 3);
        Probe.due("newer", Probe.type(pad, "{NEWER}"), 1);
        Probe.type(pad, "{OLDER}");
        Probe.due("older", pad.line() * 10 + pad.jumps(), 34);
        Probe.type(pad, "j2{OLDER}");
        Probe.due("two older", pad.line() * 10 + pad.jumps(), 4);
        Probe.type(pad, "3{NEWER}");
        Probe.due("three newer", pad.line() * 10 + pad.jumps(), 44);
        Probe.due("newer", Probe.type(pad, "{NEWER}"), 1);
        Probe.due("too many", Probe.type(pad, "4{OLDER}"), 1);
        Probe.type(pad, "{OLDER}gg");
        Probe.due("a new one", pad.jumps(), 4);
        Probe.due("newer", Probe.type(pad, "{NEWER}"), 1);
        Probe.type(pad, "{OLDER}");
        Probe.due("from the cursor", pad.line() * 10 + pad.jumps(), 34);
        pad = Probe.pad("a\nb\nc");
        Probe.type(pad, "G0gg");
        Probe.due("the cursor's own line is forgotten", Probe.type(pad, "2{OLDER}") * 10 + pad.jumps(), 12);
        Probe.due("agrees", pad.agrees(), true);
    }

    private static void jumpsThatMove() {
        ModalPad pad = Probe.pad("a\nb\nc\nd\ne\nf");
        Probe.type(pad, "2G4G6GO{ESC}:1d{ENTER}");
        Probe.due("the one of a line that is taken out is gone", pad.jumps(), 2);
        Probe.type(pad, "G2{OLDER}");
        Probe.due("the others move", pad.line() * 10 + pad.jumps(), 23);
        Probe.type(pad, "dd");
        Probe.due("the one that was gone to is gone", pad.jumps(), 2);
        Probe.due("so the cursor is kept", Probe.type(pad, "{OLDER}"), 0);
        Probe.due("and left", pad.jumps() * 10 + pad.line(), 34);
        pad = Probe.pad("a\nb\nc\nd\ne\nf");
        Probe.type(pad, "2G4G6Gggdd");
        Probe.due("the first one is gone", pad.jumps(), 3);
        Probe.type(pad, "G2{OLDER}");
        Probe.due("the others have moved", pad.line() * 10 + pad.jumps(), 23);
        pad = Probe.pad("a\nb\nc\nd\ne\nf");
        Probe.type(pad, "jGggO{ESC}2{OLDER}");
        Probe.due("the oldest one, too", pad.line() * 10 + pad.jumps(), 23);
        pad = Probe.pad("a\nb\nc\nd\ne\nf");
        Probe.type(pad, "2G4G6G2G");
        Probe.type(pad, "O{ESC}gg4{OLDER}");
        Probe.due("by a line more, too", Probe.place(pad) * 10 + pad.jumps(), 2005);
        pad = Probe.pad("a\nb\nc");
        Probe.type(pad, "Gyypgg2GG{OLDER}uk{NEWER}");
        Probe.due("u keeps the one that was gone to", pad.failures() * 100 + pad.line(), 101);
        Probe.type(pad, "{OLDER}");
        Probe.due("so this goes on from it", Probe.place(pad) * 10 + pad.jumps(), 2);
        pad = Probe.pad("abcdef\nb");
        Probe.type(pad, "$GggDG{OLDER}");
        Probe.due("columns stay", Probe.place(pad), 0);
        pad = Probe.pad("a\nb");
        Probe.type(pad, "yyGp4GggGu");
        Probe.due("other states leave them as far as lines reach", pad.jumps(), 1);
        Probe.due("agrees", pad.agrees(), true);
    }

    private static String told(ModalPad pad) {
        StringBuilder told = new StringBuilder();
        for (int line = 0; line < pad.lines(); line++) {
            told.append(line > 0 ? " " : "").append(pad.foldOf(line));
        }
        return pad.folds() + ": " + told;
    }

    /** The place that was gone to last is known as long as it is there. */
    private static void jumpsThatStay() {
        ModalPad pad = Probe.pad("a\nb\nc\nd\ne\nf");
        Probe.type(pad, "3G5G6G{OLDER}{OLDER}:1d{ENTER}");
        Probe.due("one is gone", pad.jumps(), 3);
        Probe.due("NEWER of that in line 2", Probe.type(pad, "{NEWER}"), 0);
        Probe.due("leads on", Probe.place(pad), 300);
        pad = Probe.pad("a\nb\nc\nd");
        Probe.type(pad, "Gox{ENTER}y{ENTER}z{ESC}5G2GG{OLDER}u");
        Probe.due("as far as lines reach", pad.jumps(), 2);
        Probe.due("OLDER of that in line 1", Probe.type(pad, "{OLDER}"), 0);
        Probe.due("leads on", Probe.place(pad), 0);
        Probe.type(pad, "G{OLDER}{OLDER}");
        Probe.due("those that are left stay", Probe.place(pad), 100);
        Probe.due("agrees", pad.agrees(), true);
    }

    /** The innermost fold, in whatever order they were made. */
    private static void foldsWithinOneAnother() {
        for (String keys : new String[] {"3Gzfj2Gzf2jzo", "2Gzf3jzojzfjk"}) {
            ModalPad pad = Probe.pad("a\nb\nc\nd\ne\nf");
            Probe.type(pad, keys);
            Probe.due("the outer one is open", told(pad), "2: -1 -1 203 203 -1 -1");
            Probe.type(pad, "jzd");
            Probe.due("the inner one is away", told(pad), "1: -1 -1 -1 -1 -1 -1");
            Probe.type(pad, "zc");
            Probe.due("the outer one is there", told(pad), "1: -1 104 104 104 104 -1");
        }
        // of two of the same lines the closed one
        for (String keys : new String[] {"zfjzozf2jzozc3Gddgg", "zf2jzozfjzozc3Gddgg"}) {
            ModalPad pad = Probe.pad("a\nb\nc\nd");
            Probe.type(pad, keys);
            Probe.due("two of the same lines", told(pad), "2: 1 1 -1");
            Probe.type(pad, "zd");
            Probe.due("the open one is left", told(pad), "1: -1 -1 -1");
            Probe.type(pad, "zc");
            Probe.due("and is closed", told(pad), "1: 1 1 -1");
            Probe.due("no failure", pad.failures(), 0);
        }
        // a state with fewer lines
        ModalPad pad = Probe.pad("a\nb\nc\nd");
        Probe.type(pad, "Gox{ENTER}y{ENTER}z{ESC}6Gzfjggzfj3Gzf2ju");
        Probe.due("folds as far as lines reach", told(pad), "2: 1 1 203 203");
        Probe.due("agrees", pad.agrees(), true);
        // motions but j and k lead to lines of a closed fold
        Probe.after("a\nb\nc\nd\ne", "4Gma3Gzf2jggd'a", "e", 0);
    }

    private static void foldsAreMade() {
        ModalPad pad = Probe.pad("a\nb\n\nd\ne\nf");
        Probe.due("none", told(pad), "0: -1 -1 -1 -1 -1 -1");
        Probe.type(pad, "zfj");
        Probe.due("zfj", told(pad), "1: 1 1 -1 -1 -1 -1");
        Probe.due("one line", Probe.type(pad, "GzfzzfiwVzf"), 3);
        Probe.type(pad, "{ESC}2kzf2j");
        Probe.due("apart", told(pad), "2: 1 1 -1 305 305 305");
        Probe.type(pad, "zokVjzf");
        Probe.due("overlapping ones fail", pad.failures() * 10 + pad.folds(), 42);
        Probe.type(pad, "{ESC}ggzo");
        Probe.due("open", told(pad), "2: -1 -1 -1 -1 -1 -1");
        Probe.type(pad, "ggzfG");
        Probe.due("around", told(pad), "3: 5 5 5 5 5 5");
        Probe.type(pad, "zozfG");
        Probe.due("the same lines fail", pad.failures() * 10 + pad.folds(), 53);
        Probe.type(pad, "3Gzf2z");
        Probe.due("overlapping", pad.failures() * 10 + pad.folds(), 63);
        Probe.type(pad, "4Gzf2z");
        Probe.due("within", told(pad), "4: -1 -1 -1 304 304 -1");
        Probe.type(pad, "ggzdzdzdGzdzd");
        Probe.due("zd", pad.folds() * 100 + pad.failures(), 108);
        Probe.due("agrees", pad.agrees(), true);
        pad = Probe.pad("a\nb\nc\nd");
        Probe.due("overlapping the first one", Probe.type(pad, "zfjzojzfj") * 10 + pad.folds(), 11);
        pad = Probe.pad("a\n\nc");
        Probe.type(pad, "zf2$");
        Probe.due("up to an empty line", told(pad), "1: 1 1 -1");
        Probe.type(pad, "zd/c{ENTER}ggzfn");
        Probe.due("to the length of the empty line", told(pad), "1: 1 1 -1");
        pad = Probe.pad("a\nb\n\nd\n\ne\nf");
        Probe.type(pad, "zfip2Gjjzfap");
        Probe.due("objects", told(pad), "2: 1 1 -1 304 304 -1 -1");
        for (int line : new int[] {-1, 7, Integer.MIN_VALUE, Integer.MAX_VALUE}) {
            ModalPad same = pad;
            Probe.due("foldOf " + line, Probe.thrown(() -> same.foldOf(line)), "IndexOutOfBoundsException");
        }
    }

    private static void foldsAreChanged() {
        ModalPad pad = Probe.pad("a\nb\nc\nd\ne\nf");
        Probe.due("zo without", Probe.type(pad, "zo"), 1);
        Probe.due("zc without", Probe.type(pad, "zc"), 1);
        Probe.due("zd without", Probe.type(pad, "zd"), 1);
        Probe.type(pad, "zfjzf4z");
        Probe.due("within", told(pad), "2: 4 4 4 4 4 -1");
        Probe.type(pad, "zo");
        Probe.due("zo opens the innermost one", told(pad), "2: 4 4 4 4 4 -1");
        Probe.type(pad, "zo");
        Probe.due("then the other one", told(pad), "2: -1 -1 -1 -1 -1 -1");
        Probe.due("zo: none closed", Probe.type(pad, "zo"), 1);
        Probe.type(pad, "jzc");
        Probe.due("zc closes the innermost one", told(pad) + " " + pad.line(), "2: 1 1 -1 -1 -1 -1 0");
        Probe.type(pad, "zc");
        Probe.due("then the other one", told(pad), "2: 4 4 4 4 4 -1");
        Probe.due("zc: none open", Probe.type(pad, "zc"), 1);
        Probe.type(pad, "zd");
        Probe.due("zd takes the innermost one", told(pad), "1: 4 4 4 4 4 -1");
        Probe.type(pad, "zd");
        Probe.due("zd", told(pad), "0: -1 -1 -1 -1 -1 -1");
        Probe.due("failures", pad.failures(), 5);
        // the outermost one of those that are closed
        pad = Probe.pad("a\nb\nc\nd\ne\nf");
        Probe.type(pad, "2Gzf4jzo3Gzf2zkjzc");
        Probe.due("outermost", told(pad), "2: -1 105 105 105 105 105");
        // of two of the same lines the closed one
        pad = Probe.pad("a\nb\nc\nd");
        Probe.type(pad, "zfjzozf2jzojjdd");
        Probe.due("two of the same lines", told(pad), "2: -1 -1 -1");
        Probe.type(pad, "ggzc");
        Probe.due("one is closed", told(pad), "2: 1 1 -1");
        Probe.type(pad, "zd");
        Probe.due("that one is gone", told(pad), "1: -1 -1 -1");
        Probe.due("agrees", pad.agrees(), true);
    }

    private static void cursorInFolds() {
        ModalPad pad = Probe.pad("abcd\nef\nghijkl\nmnopqr\nst");
        Probe.type(pad, "jlzfj");
        Probe.due("on its first line", Probe.place(pad), 101);
        Probe.type(pad, "j");
        Probe.due("j over it", Probe.place(pad), 301);
        Probe.type(pad, "3l");
        Probe.due("column", Probe.place(pad), 304);
        Probe.type(pad, "k");
        Probe.due("k onto it", Probe.place(pad), 101);
        Probe.type(pad, "k");
        Probe.due("k over it", Probe.place(pad), 3);
        Probe.type(pad, "2j");
        Probe.due("the wanted column", Probe.place(pad), 304);
        Probe.type(pad, "gg/k{ENTER}");
        Probe.due("a place in it", Probe.place(pad), 101);
        Probe.type(pad, "j");
        Probe.due("its column is the wanted one", Probe.place(pad), 304);
        Probe.type(pad, "gg/k{ENTER}zo");
        Probe.due("zo", Probe.place(pad), 101);
        Probe.type(pad, "jzc");
        Probe.due("zc", Probe.place(pad), 101);
        Probe.type(pad, "i");
        Probe.due("INSERT opens it", pad.foldOf(1), ModalPad.NONE);
        Probe.due("agrees", pad.agrees(), true);
        Probe.after("ab\ncd\nef\ngh", "jzfjgg2j", "ab\ncd\nef\ngh", 300);
        Probe.after("ab\ncd\nef\ngh", "jzfjgg3j", "ab\ncd\nef\ngh", 0, 1);
        Probe.after("ab\ncd\nef\ngh", "jzfjG2k", "ab\ncd\nef\ngh", 0);
    }

    private static void commandsOnFolds() {
        String text = "a\nb\nc\nd\ne";
        Probe.after(text, "jzfjdd", "a\nd\ne", 100);
        Probe.after(text, "jzfj2dd", "a\ne", 100);
        Probe.after(text, "jzfjggdj", "d\ne", 0);
        Probe.after(text, "jzfjgg2dd", "d\ne", 0);
        Probe.after(text, "jzfjjdk", "a\ne", 100);
        Probe.after(text, "jzfj>>", "a\n  b\n  c\nd\ne", 102);
        Probe.after(text, "jzfj4dd", text, 100, 1);
        Probe.after(text, "jzfjVjd", "a\ne", 100);
        Probe.after(text, "jzfjVd", "a\nd\ne", 100);
        Probe.after(text, "jzfjjVkd", "a\ne", 100);
        Probe.after(text, "jzfjvjd", "a\n\ne", 100);
        Probe.after(text, "jzfj:d{ENTER}", "a\nc\nd\ne", 100);
        Probe.after(text, "jzfjJ", "a\nb c\nd\ne", 101);
        Probe.after(text, "jzfjccx{ESC}", "a\nx\nd\ne", 100);
        Probe.after(text, "yyjzfjp", "a\nb\nc\na\nd\ne", 300);
        Probe.after(text, "yyjzfjP", "a\na\nb\nc\nd\ne", 100);
        Probe.after(text, "jzfjox{ESC}", "a\nb\nc\nx\nd\ne", 300);
        Probe.after(text, "jzfjOx{ESC}", "a\nx\nb\nc\nd\ne", 100);
        Probe.after(text, "yljzfjp", "a\nba\nc\nd\ne", 101);
        Probe.after(text, "jzfjix{ESC}j", "a\nxb\nc\nd\ne", 200);
        Probe.after(text, "jzfjGdgg", "", 0);
        Probe.after(text, "jzfjggd3G", "d\ne", 0);
        ModalPad pad = Probe.after(text, "jzfjox{ESC}", "a\nb\nc\nx\nd\ne", 300);
        Probe.due("o leaves it closed", told(pad), "1: -1 102 102 -1 -1 -1");
        pad = Probe.after(text, "jzfjOx{ESC}", "a\nx\nb\nc\nd\ne", 100);
        Probe.due("O leaves it closed", told(pad), "1: -1 -1 203 203 -1 -1");
        pad = Probe.after(text, "jzfjyyGp", text + "\nb\nc", 500);
        Probe.due("yy", Probe.register(pad, '0'), "2:b\nc\n");
    }

    private static void linesOfFolds() {
        ModalPad pad = Probe.pad("a\nb\nc\nd\ne");
        Probe.type(pad, "jzf2jzoO{ESC}");
        Probe.type(pad, "jzc");
        Probe.due("a line ahead", told(pad), "1: -1 -1 204 204 204 -1");
        Probe.type(pad, "zojyypzc");
        Probe.due("a line within", told(pad), "1: -1 -1 205 205 205 205 -1");
        Probe.type(pad, "zoGkyypkzc");
        Probe.due("a line behind", told(pad), "1: -1 -1 205 205 205 205 -1 -1");
        Probe.type(pad, "zo:5,6d{ENTER}");
        Probe.due("lines less", pad.folds(), 1);
        Probe.type(pad, "4Gzc");
        Probe.due("two are left", told(pad), "1: -1 -1 203 203 -1 -1");
        Probe.type(pad, ":3d{ENTER}");
        Probe.due("with one it is gone", pad.folds(), 0);
        pad = Probe.pad("a\nb\nc\nd");
        Probe.type(pad, "zfGzo:2m0{ENTER}2Gzc");
        Probe.due("a line that moves is put in ahead", told(pad), "1: -1 103 103 103");
        pad = Probe.pad("c\nb\na\nd");
        Probe.type(pad, "zfGzo:2,3sort{ENTER}zc");
        Probe.due("lines sorted within", told(pad), "1: 3 3 3 3");
        pad = Probe.pad("c\nb\na\nd");
        Probe.type(pad, "zfGzo:1,3sort{ENTER}");
        Probe.due("with one left it is gone", told(pad), "0: -1 -1 -1 -1");
        pad = Probe.pad("a\nb\nc");
        Probe.type(pad, "x2pyypyypzf2juu");
        Probe.due("states leave them, as far as lines reach", pad.lines() * 10 + pad.folds(), 30);
        pad = Probe.pad("a\nb\nc\nd");
        Probe.type(pad, "Gyypyyp5Gzfjggzfjzo2u");
        Probe.due("those that are left stay as they are", told(pad), "1: -1 -1 -1 -1");
        pad = Probe.pad("a\nb\nc");
        Probe.type(pad, "GyypyypkkzfGuu");
        Probe.due("with one line it is gone", pad.lines() * 10 + pad.folds(), 30);
        pad = Probe.pad("a\nb\nc");
        Probe.type(pad, "Gyypyyp2GzfGuu");
        Probe.due("with two it stays", told(pad), "1: -1 102 102");
        pad = Probe.pad("a\nb\nc\nd\ne\nf");
        Probe.type(pad, "4Gzfj:1,2d{ENTER}");
        Probe.due("lines less ahead", told(pad), "1: -1 102 102 -1");
        Probe.type(pad, "gg2O{ESC}");
        Probe.due("a line more ahead", told(pad), "1: -1 -1 203 203 -1");
        pad = Probe.pad("a\nb\nc\nd\ne\nf");
        Probe.type(pad, "zfj3Gzfjzo5Gzfj:2d{ENTER}");
        Probe.due("those that are left stay as they are", told(pad), "2: -1 -1 -1 304 304");
        Probe.due("one of them open", Probe.type(pad, "2Gzc"), 0);
        Probe.due("closed", told(pad), "2: -1 102 102 304 304");
        Probe.due("agrees", pad.agrees(), true);
    }

    private static void loading() {
        ModalPad pad = Probe.pad("a b\nb\nc b");
        Probe.type(pad, "majmbqxGzfk/b{ENTER}zo\"adlgm");
        Probe.due("ahead", pad.folds() + pad.jumps() + pad.cursors(), 1 + 1 + 1);
        Probe.type(pad, "iq");
        Probe.feed(pad, "x\ny");
        Probe.due("load", pad.load(), 2);
        Probe.due("INSERT ends", pad.mode() * 100 + Probe.place(pad), 0);
        Probe.due("all is gone", pad.folds() + pad.jumps() + pad.cursors(), 0);
        Probe.due("marks, too", pad.mark('a') + pad.mark('b'), -2);
        Probe.due("states, too", pad.states() * 10 + pad.state(), 10);
        Probe.due("a register stays", Probe.register(pad, 'a'), "1:b");
        Probe.type(pad, "d");
        Probe.feed(pad, "z");
        pad.load();
        Probe.due("what was given is dropped", pad.given(), 0);
        Probe.type(pad, ":%");
        pad.load();
        Probe.due("a command line, too", pad.mode() * 10 + pad.given(), 0);
        Probe.type(pad, "vq");
        pad.load();
        Probe.due("a selection, too", pad.mode(), 0);
        Probe.due("the failures stay", pad.failures(), 1);
        Probe.due("agrees", pad.agrees(), true);
    }
}
