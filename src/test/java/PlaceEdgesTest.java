/** The edges that the document names for marks, jumps, folds and several cursors, sentence by sentence. */
public final class PlaceEdgesTest {
    public static void main(String[] args) {
        marksMove();
        marksAndStates();
        tenJumps();
        olderAndNewer();
        jumpsThatAreGone();
        foldsOfTwoLines();
        foldsWithinOrApart();
        foldsLoseLines();
        linesOfClosedFolds();
        cursorOfClosedFolds();
        insertOpens();
        tenCursors();
        thoseThatFail();
        thoseThatAreGone();
        lineOfTheMainOne();
        leftAlone();
        cutToTheirLines();
        Probe.end();
    }

    private static ModalPad fails(String text, String keys, int wantPlace) {
        ModalPad pad = Probe.after(text, keys, text, wantPlace, 1);
        Probe.due("NORMAL behind " + keys, pad.mode() * 10 + pad.given(), 0);
        return pad;
    }

    private static String folds(ModalPad pad) {
        StringBuilder told = new StringBuilder();
        for (int line = 0; line < pad.lines(); line++) {
            told.append(line > 0 ? " " : "").append(pad.foldOf(line));
        }
        return pad.folds() + ": " + told;
    }

    private static void jumpsAre(ModalPad pad, String what, int want) {
        Probe.due("jumps " + what, pad.jumps(), want);
    }

    /** "Those in lines that are taken out are gone", "columns stay". */
    private static void marksMove() {
        String[][] rows = {{"yyP", "301"}, {"GyyP", "201"}, {"2Gyyp", "301"}, {"3GyyP", "301"}, {"3Gyyp", "201"}, {"ggdd", "101"},
            {"3Gdd", "-1"}, {"4Gdd", "201"}, {"2GJ", "-1"}, {"3GJ", "201"}, {"3Gcc{ESC}", "201"}, {"2Gcj{ESC}", "-1"},
            {"2Gdj", "-1"}, {"2Gvjld", "-1"}, {"3Gx", "201"}, {"3GD", "201"}, {"3Gi{ENTER}{ESC}", "201"},
            {":3m4{ENTER}", "-1"}, {":4m0{ENTER}", "301"}, {":3m2{ENTER}", "201"}, {":1m4{ENTER}", "101"}, {":%sort{ENTER}", "-1"},
            {":1,2sort{ENTER}", "201"}, {"GO{ESC}", "201"}, {"ggo{ESC}", "301"}, {"ggdG", "-1"}, {":g/c/m0{ENTER}", "-1"}};
        for (String[] row : rows) {
            ModalPad pad = Probe.pad("dd\nbb\ncc\naa");
            Probe.type(pad, "2jlmagg" + row[0]);
            Probe.due("the mark behind " + row[0], "" + pad.mark('a'), row[1]);
            Probe.due("agrees", pad.agrees(), true);
        }
        Probe.due("a mark is set anew", Probe.after("ab\ncd", "majlma", "ab\ncd", 101).mark('a'), 101);
    }

    /** "A state that one goes to leaves them, as far as lines reach." */
    private static void marksAndStates() {
        ModalPad pad = Probe.pad("a\nb");
        Probe.type(pad, "yy2pGmzkmykmxgg");
        Probe.due("four lines", pad.mark('x') + " " + pad.mark('y') + " " + pad.mark('z'), "100 200 300");
        Probe.type(pad, "u");
        Probe.due("two lines", pad.mark('x') + " " + pad.mark('y') + " " + pad.mark('z'), "100 -1 -1");
        Probe.type(pad, "{REDO}");
        Probe.due("they do not come again", pad.mark('x') + " " + pad.mark('y') + " " + pad.mark('z'), "100 -1 -1");
        pad = Probe.pad("abc");
        Probe.type(pad, "$ma0Du");
        Probe.due("columns stay", pad.mark('a'), 2);
        Probe.due("also behind the end of a line", Probe.after("abc", "$ma0D", "", 0).mark('a'), 2);
    }

    /** "At most 10, the oldest one is forgotten", "another one in the same line is forgotten". */
    private static void tenJumps() {
        ModalPad pad = Probe.pad("\n".repeat(11) + "a");
        jumpsAre(pad, "at first", 0);
        for (int line = 2; line <= 12; line++) {
            Probe.type(pad, line + "G");
            jumpsAre(pad, "behind " + line, Math.min(10, line - 1));
        }
        Probe.due("the place of the cursor is kept as the 10th", Probe.type(pad, "10{OLDER}"), 1);
        jumpsAre(pad, "behind what fails", 10);
        Probe.due("9 are older", Probe.type(pad, "9{OLDER}"), 0);
        Probe.due("which is the line 3", pad.line() * 100 + pad.jumps(), 210);
        Probe.due("none is older", Probe.type(pad, "{OLDER}"), 1);
        Probe.due("9 newer", Probe.type(pad, "9{NEWER}") + pad.line(), 11);
        Probe.due("none is newer", Probe.type(pad, "{NEWER}"), 1);
        pad = Probe.pad("\n".repeat(11) + "a");
        for (int line = 2; line <= 12; line++) {
            Probe.type(pad, line + "G");
        }
        for (int line = 10; line >= 2; line--) {
            Probe.due("one older", Probe.type(pad, "{OLDER}") * 100 + pad.line(), line);
        }
        for (int line = 3; line <= 11; line++) {
            Probe.due("one newer", Probe.type(pad, "{NEWER}") * 100 + pad.line(), line);
        }
        pad = Probe.pad("ab\nc");
        Probe.type(pad, "GggG$gglG");
        jumpsAre(pad, "one of each line", 2);
        Probe.due("the newest of the line", Probe.type(pad, "{OLDER}") * 1000 + Probe.place(pad), 1);
        // what fails keeps none, and what is none of these
        for (String keys : new String[] {"N", "/q{ENTER}", "'z", "`z", "%", "{", "j}", "99j", "dG", "yG", "y/c{ENTER}", "vG{ESC}"}) {
            pad = Probe.pad("ab\nc");
            Probe.type(pad, keys);
            jumpsAre(pad, "behind " + keys, 0);
        }
        // also if they lead nowhere else
        for (String keys : new String[] {"gg", "1G", "ma'a", "ma`a", "/ab{ENTER}"}) {
            pad = Probe.pad("ab\nc");
            Probe.due("no failure by " + keys, Probe.type(pad, keys), 0);
            jumpsAre(pad, "behind " + keys, 1);
        }
    }

    /** "They fail if there is none." */
    private static void olderAndNewer() {
        for (String keys : new String[] {"{OLDER}", "{NEWER}", "9{OLDER}", "9{NEWER}"}) {
            jumpsAre(fails("a\nb", keys, 0), "behind " + keys, 0);
        }
        ModalPad pad = fails("a\nb\nc", "Ggg{NEWER}", 0);
        jumpsAre(pad, "none was gone to", 2);
        pad = fails("a\nb\nc", "Ggg3{OLDER}", 0);
        jumpsAre(pad, "not so many", 2);
        pad = Probe.after("a\nb\nc", "2GG2{OLDER}", "a\nb\nc", 0);
        jumpsAre(pad, "the cursor's, too", 3);
        Probe.due("from the one that was gone to", Probe.type(pad, "$j2{NEWER}") * 1000 + Probe.place(pad), 200);
        Probe.due("none is newer", Probe.type(pad, "{NEWER}"), 1);
        // the only one is that of the line of the cursor
        pad = fails("abc\nb", "gg$gg{OLDER}", 0);
        jumpsAre(pad, "of that line alone", 1);
        // once one was kept anew, none was gone to
        pad = fails("a\nb\nc", "2GG{OLDER}gg{NEWER}", 0);
        jumpsAre(pad, "three lines", 3);
    }

    /** "Or if it is gone, from the place of the cursor, which is kept as the newest one by that". */
    private static void jumpsThatAreGone() {
        ModalPad pad = Probe.pad("a\nb\nc\nd");
        Probe.type(pad, "3G4G{OLDER}");
        Probe.due("the line 3", pad.line() * 10 + pad.jumps(), 23);
        Probe.type(pad, "dd");
        jumpsAre(pad, "two are left", 2);
        Probe.due("none is newer than it", Probe.type(pad, "{NEWER}"), 1);
        Probe.due("older than the cursor", Probe.type(pad, "{OLDER}") * 1000 + Probe.place(pad), 0);
        jumpsAre(pad, "that of the cursor in the line of another one", 2);
        Probe.due("newer", Probe.type(pad, "{NEWER}") * 1000 + Probe.place(pad), 200);
        pad = Probe.pad("a");
        Probe.type(pad, "yy2pGggG{OLDER}u");
        jumpsAre(pad, "as far as lines reach", 1);
    }

    /** "A fold is of 2 lines or more, and closed when it is made". */
    private static void foldsOfTwoLines() {
        for (String keys : new String[] {"zfz", "zf1z", "zfl", "zf$", "zfw", "zfiw", "zf'a", "zfG", "zf}", "zfip", "zf/c{ENTER}"}) {
            ModalPad pad = Probe.pad(keys.startsWith("zf/") ? "b\nc" : "b");
            Probe.type(pad, "ma");
            Probe.due("of one line by " + keys, Probe.type(pad, keys) * 10 + pad.folds(), 10);
        }
        for (String keys : new String[] {"zf2z", "2zfz", "zfj", "zfG", "Gzfk", "Gzfgg", "Vjzf", "vjzf", "{RECT}jzf", "zf2$", "zfip"}) {
            ModalPad pad = Probe.pad("b\nc");
            Probe.due("of two lines by " + keys, Probe.type(pad, keys), 0);
            Probe.due("closed", folds(pad) + Probe.place(pad), "1: 1 10");
        }
    }

    /** "Folds lie within one another, or apart (others, and such of the same lines, fail)". */
    private static void foldsWithinOrApart() {
        for (int top = 1; top <= 6; top++) {
            for (int end = top + 1; end <= 6; end++) {
                // the one that is there is of the lines 2 to 5
                boolean apart = end < 2 || top > 5;
                boolean within = top >= 2 && end <= 5;
                boolean around = top <= 2 && end >= 5;
                ModalPad pad = Probe.pad("a\nb\nc\nd\ne\nf");
                Probe.type(pad, "2Gzf5Gzo");
                int failed = Probe.type(pad, top + "Gzf" + end + "G");
                Probe.due("a fold of " + top + " to " + end, failed * 10 + pad.folds(), apart || within != around ? 2 : 11);
                Probe.due("agrees", pad.agrees(), true);
            }
        }
        ModalPad pad = Probe.pad("a\nb\nc\nd\ne\nf");
        Probe.due("apart", Probe.type(pad, "zf2zGzfk3Gzfj") * 10 + pad.folds(), 3);
        Probe.due("beside one another", folds(pad), "3: 1 1 203 203 405 405");
    }

    /** "A fold loses the line; with one left it is gone". */
    private static void foldsLoseLines() {
        String[][] rows = {{":1d", "1: 2 2 2 -1"}, {":2d", "1: -1 102 102 -1"}, {":3d", "1: -1 102 102 -1"},
            {":4d", "1: -1 102 102 -1"}, {":5d", "1: -1 103 103 103"}, {":2,3d", "0: -1 -1 -1"}, {":2,4d", "0: -1 -1"},
            {":1,2d", "1: 1 1 -1"}, {":1,3d", "0: -1 -1"}, {":4,5d", "1: -1 102 102"}, {":3,5d", "0: -1 -1"}, {":3m0", "1: -1 -1 203 203 -1"},
            {":1m2", "1: 3 3 3 3 -1"}, {":5m2", "1: -1 104 104 104 104"}, {":5m1", "1: -1 -1 204 204 204"},
            {":5m4", "1: -1 103 103 103 -1"}, {":2m5", "1: -1 102 102 -1 -1"}};
        for (String[] row : rows) {
            ModalPad pad = Probe.pad("a\nb\nc\nd\ne");
            Probe.type(pad, "2Gzf4G" + row[0] + "{ENTER}");
            Probe.due("folds behind " + row[0], folds(pad), row[1]);
            Probe.due("agrees", pad.agrees(), true);
        }
        ModalPad pad = Probe.pad("a\nb\nc");
        Probe.type(pad, "zfGdd");
        Probe.due("all of them", folds(pad) + Probe.text(pad), "0: -1");
    }

    /** "The lines of an outermost closed fold are one line", and there have to be so many. */
    private static void linesOfClosedFolds() {
        String text = "a\nb\nc\nd";
        // of the lines 2 and 3 there is a closed one
        String[] enough = {"2j", "d2j", "3dd", "3yy", "3>>", "V2jd", "G2k", "Gd2k"};
        for (String keys : enough) {
            ModalPad pad = Probe.pad(text);
            Probe.type(pad, "2Gzfjgg");
            Probe.due("no failure by " + keys, Probe.type(pad, keys), 0);
        }
        String[] many = {"3j", "d3j", "4dd", "4yy", "4>>", "4g~~", "V3j", "G3k", "Gd3k", "2G2j", "2G3dd", "zf4z"};
        for (String keys : many) {
            ModalPad pad = Probe.pad(text);
            Probe.type(pad, "2Gzfjgg");
            Probe.due("a failure by " + keys, Probe.type(pad, keys), 1);
        }
        // what is none of these counts each line
        Probe.after(text, "2Gzfjgg4J", "a b c d", 5);
        Probe.after(text, "2Gzfjgg4$", text, 300);
        Probe.after(text, "2Gzfjgg4G", text, 300);
        Probe.after(text, "2Gzfj:d{ENTER}", "a\nc\nd", 100);
        Probe.after(text, "2Gzfjggd3G", "d", 0);
        // an outermost one, and no open one
        Probe.after("a\nb\nc\nd\ne", "2Gzfjzf2zgg2j", "a\nb\nc\nd\ne", 400);
        Probe.after("a\nb\nc\nd\ne", "2Gzfjzf2zzozogg2j", "a\nb\nc\nd\ne", 200);
    }

    /** "Stands on its first line, in the column that it would have, cut to that line". */
    private static void cursorOfClosedFolds() {
        String text = "x\nab\nabcd\n\ny";
        String[] keys = {"3G", "/cd{ENTER}", "3$", "'a", "`a", "4G", "}"};
        int[] places = {100, 101, 101, 100, 101, 100, 100};
        for (int i = 0; i < keys.length; i++) {
            ModalPad pad = Probe.pad(text);
            Probe.type(pad, "3G$ma2Gzf3zgg");
            Probe.due("no failure by " + keys[i], Probe.type(pad, keys[i]), 0);
            Probe.due("the place behind " + keys[i], Probe.place(pad), places[i]);
        }
        // on an empty first line, and one that closes
        Probe.after("\nabcd\nx", "j$zfk", "\nabcd\nx", 0);
        Probe.after("\nabcd\nxyzu", "j$zfkj", "\nabcd\nxyzu", 203);
        Probe.after("ab\nabcd\nx", "zfjzoj$zc", "ab\nabcd\nx", 1);
        Probe.after("ab\nabcd\nxyzu", "zfjzoj$hzcj", "ab\nabcd\nxyzu", 202);
        Probe.after("abcd\nab\nx", "zfjzoj$zczo", "abcd\nab\nx", 1);
    }

    /** "INSERT opens the folds of its line." */
    private static void insertOpens() {
        for (String keys : new String[] {"i", "a", "I", "A", "s", "C", "cl"}) {
            ModalPad pad = Probe.pad("ab\nb\nc\nd");
            Probe.type(pad, "zfjzf3z" + keys);
            Probe.due("all of them behind " + keys, folds(pad), "2: -1 -1 -1 -1");
        }
        for (String keys : new String[] {"o", "O"}) {
            ModalPad pad = Probe.pad("ab\nb\nc\nd");
            Probe.type(pad, "zfj" + keys);
            Probe.due("not those beside it", folds(pad), keys.equals("o") ? "1: 1 1 -1 -1 -1" : "1: -1 102 102 -1 -1");
        }
        ModalPad pad = Probe.pad("ab\nb\nc\nd");
        Probe.type(pad, "zfj3Gzfjix{ENTER}{ESC}");
        Probe.due("not those of other lines", folds(pad), "2: 1 1 -1 -1 -1");
        pad = Probe.pad("ab\nb\nc\nd");
        Probe.type(pad, "zfjzfG:2nix{ENTER}");
        Probe.due("n stands on the first line of one", Probe.text(pad) + folds(pad), "xab\nb\nc\nd2: -1 -1 -1 -1");
    }

    /** "Several cursors, which are at most 10". */
    private static void tenCursors() {
        for (int many = 1; many <= 12; many++) {
            ModalPad pad = Probe.pad("a".repeat(many));
            Probe.due("a search", Probe.type(pad, "/a{ENTER}0gm"), 0);
            Probe.due("of " + many, pad.cursors(), Math.min(10, many) - 1);
            Probe.due("the main one", Probe.place(pad), 0);
        }
        ModalPad pad = Probe.pad("a".repeat(12));
        Probe.type(pad, "/a{ENTER}$gm");
        Probe.due("the first ones from the top of the others", pad.column() + " " + Probe.cursors(pad), "11 0 1 2 3 4 5 6 7 8");
        Probe.due("with a main one that is elsewhere", Probe.type(pad, "Ab{ESC}gm"), 0);
        Probe.due("it goes to the first one", pad.column() + " " + Probe.cursors(pad), "0 1 2 3 4 5 6 7 8 9");
        fails("ab", "gm", 0);
        fails("a", "/b{ENTER}", 0);
        ModalPad none = Probe.after("a b", "/b{ENTER}xgm", "a ", 1, 1);
        Probe.due("none stands there", none.cursors(), 0);
    }

    /** "Those that fail stay (which is no failure)", "if it has not failed". */
    private static void thoseThatFail() {
        String[][] rows = {{"h", "xa\na", "100"}, {"X", "a\na", "100"}, {"b", "xa\na", "0"}, {"Fx", "xa\na", "100"}, {"dFx", "a\na", "100"},
            {"dh", "a\na", "100"}, {"c0y{ESC}", "ya\na", "100"}, {"y0", "xa\na", "100"}};
        for (String[] row : rows) {
            ModalPad pad = Probe.pad("xa\na");
            Probe.type(pad, "/a{ENTER}gg$gm");
            Probe.due("two cursors", Probe.place(pad) + " " + Probe.cursors(pad), "1 100");
            Probe.due("no failure by " + row[0], Probe.type(pad, row[0]), 0);
            Probe.due("text behind " + row[0], Probe.text(pad), row[1]);
            Probe.due("it stays by " + row[0], Probe.cursors(pad), row[2].equals("0") ? "" : row[2]);
            Probe.due("agrees", pad.agrees(), true);
        }
        for (String keys : new String[] {"h", "X", "b", "Fx", "d0", "k", "3dd", "J", "4rx", "p", "Q", "u", "zo"}) {
            ModalPad pad = Probe.pad("xa\na");
            Probe.type(pad, "/a{ENTER}Ggm");
            Probe.due("two cursors", Probe.place(pad) + " " + Probe.cursors(pad), "100 1");
            boolean goes = keys.equals("b") || keys.equals("k");
            Probe.due("the main one fails by " + keys, Probe.type(pad, keys), goes ? 0 : 1);
            Probe.due("so it is not done for the other one", Probe.text(pad), "xa\na");
            if (!goes) {
                Probe.due("nothing changes", Probe.place(pad) + " " + Probe.cursors(pad), "100 1");
            }
        }
    }

    /** Further ones in lines that are taken out are gone, and those at the same place are one. */
    private static void thoseThatAreGone() {
        ModalPad pad = Probe.after("a a a\nb", "/a{ENTER}0gmdd", "b", 0);
        Probe.due("two lines were taken out at most", Probe.cursors(pad), "");
        pad = Probe.after("a\na\na", "/a{ENTER}gg0gmdG", "", 0);
        Probe.due("all", Probe.cursors(pad), "");
        pad = Probe.after("a\na\nb", "/a{ENTER}gg0gmJ", "a a\nb", 1);
        Probe.due("the one of the line that was joined", Probe.cursors(pad), "");
        pad = Probe.after("a a a", "/a{ENTER}0gm0", "a a a", 0);
        Probe.due("one from then on", Probe.cursors(pad), "");
        pad = Probe.after("a a a", "/a{ENTER}$gmh", "a a a", 3);
        Probe.due("not at the same place", Probe.cursors(pad), "0 1");
        pad = Probe.after("aa", "/a{ENTER}$gmh", "aa", 0);
        Probe.due("at the place of one that stays", Probe.cursors(pad), "");
    }

    /** "At the line that stands there then, or the last one (its wanted column stays)". */
    private static void lineOfTheMainOne() {
        ModalPad pad = Probe.pad("x\na\na\nbcd");
        Probe.type(pad, "/a{ENTER}jgmdk");
        Probe.due("the main one, then none", Probe.text(pad) + Probe.place(pad) + Probe.cursors(pad), "x\nbcd100");
        pad = Probe.pad("qa\nqb\nc\nqd");
        Probe.type(pad, "/q{ENTER}Gl0gmJ");
        Probe.due("J fails for the main one", Probe.text(pad) + Probe.cursors(pad), "qa\nqb\nc\nqd0 100");
        pad = Probe.pad("qa\nqb\nc\ndef\ng");
        Probe.type(pad, "/q{ENTER}2G0gmJ");
        Probe.due("the line of the main one is joined with another one", Probe.text(pad), "qa qb c\ndef\ng");
        Probe.due("it is at the line that stands there then", Probe.place(pad) + " " + Probe.cursors(pad), "102 2");
        pad = Probe.pad("qa\nqb\nc");
        Probe.type(pad, "/q{ENTER}2G0gmJ");
        Probe.due("or the last one", Probe.text(pad) + Probe.place(pad) + Probe.cursors(pad), "qa qb c2");
    }

    /** "Any other command, and ESC where a command begins, leaves the main one alone", but not what fails. */
    private static void leftAlone() {
        String[][] rows = {{"{ESC}", "0"}, {"2{ESC}", "2"}, {"ma", "0"}, {"v", "0"}, {":", "0"}, {"qb", "0"}, {"u", "0"}, {"S", "0"},
            {"Y", "0"}, {"o", "0"}, {"O", "0"}, {"g-", "0"}, {"@z", "2"}, {"@@", "2"}, {"zo", "2"}, {"zc", "2"}, {"{OLDER}", "0"},
            {"{NEWER}", "2"}, {"{REDO}", "2"}, {"g+", "2"}, {"99u", "2"}, {"gQ", "2"}, {"gm", "2"}, {".", "0"}, {"l", "2"}, {"99j", "2"},
            {"i", "2"}, {"~", "2"}, {"rx", "2"}, {"2", "2"}, {"\"a", "2"}};
        for (String[] row : rows) {
            ModalPad pad = Probe.pad("a b\na b\na b\nc");
            Probe.type(pad, "GxggG/a{ENTER}gg0gm" + row[0]);
            Probe.due("cursors behind " + row[0], "" + pad.cursors(), row[1]);
            Probe.due("agrees", pad.agrees(), true);
        }
        // @, . and n leave it alone as they begin, each of them once
        ModalPad pad = Probe.pad("a b\na b\na b");
        Probe.type(pad, "/a{ENTER}qbgmq2@b");
        Probe.due("made by what is played", pad.cursors(), 2);
        Probe.type(pad, ":1,2ngm{ENTER}");
        Probe.due("by n", pad.cursors(), 2);
        Probe.type(pad, ":g/a/ngm{ENTER}");
        Probe.due("by n by g", pad.cursors(), 2);
        Probe.type(pad, ":g/a/>{ENTER}");
        Probe.due("a command line leaves it alone", pad.cursors(), 0);
    }

    /** "The columns of further ones are cut to their lines behind each command that was done at all of them". */
    private static void cutToTheirLines() {
        ModalPad pad = Probe.pad("ab a");
        Probe.type(pad, "/a{ENTER}0gmD");
        Probe.due("one that is cut, and fails", Probe.text(pad) + Probe.place(pad) + Probe.cursors(pad), "0");
        pad = Probe.pad("abca");
        Probe.type(pad, "/a{ENTER}0gm2x");
        Probe.due("first the main one, then the last place", Probe.text(pad) + Probe.place(pad) + Probe.cursors(pad), "c0");
        pad = Probe.pad("xaba\na");
        Probe.type(pad, "/a{ENTER}gg0lgmdTx");
        Probe.due("one that fails stays, but is cut", Probe.place(pad) + " " + pad.failures(), "1 1");
        pad = Probe.pad("abcda");
        Probe.type(pad, "/a{ENTER}0gmiz{ESC}");
        Probe.due("columns do not move with signs", Probe.text(pad) + Probe.place(pad) + Probe.cursors(pad), "zabczda04");
    }
}
