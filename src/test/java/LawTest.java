/** Promises 6 to 9: feed, text, force, asks. */
public final class LawTest {
    private static final Due DUE = new Due("LawTest");
    private static final String REST = "; slope 0; bears 0;";

    public static void main(String[] args) {
        feeding();
        texts();
        faults();
        nesting();
        forcing();
        asking();
        boundsOfParts();
        leastAndMostNames();
        meaning();
        wrapping();
        truth();
        DUE.end();
    }

    private static void feeding() {
        OneNet x = new OneNet();
        DUE.is("6: feed(0, ..)", x.feed(0, 1, 1, 1, 1, 1), OneNet.BAD);
        DUE.is("6: feed(6, ..)", x.feed(6, 1, 1, 1, 1, 1), OneNet.BAD);
        DUE.is("6: a is -1", x.feed(1, -1, 0, 0, 0, 0), OneNet.BAD);
        DUE.is("6: b is 256", x.feed(1, 0, 256, 0, 0, 0), OneNet.BAD);
        DUE.is("6: c is -1", x.feed(1, 0, 0, -1, 0, 0), OneNet.BAD);
        DUE.is("6: d is 256", x.feed(1, 0, 0, 0, 256, 0), OneNet.BAD);
        DUE.is("6: e is 256", x.feed(1, 0, 0, 0, 0, 256), OneNet.BAD);
        DUE.is("6: nothing came", x.count(5), 0);
        DUE.is("6: feed(5, ..)", x.feed(5, 'f', 'e', 'l', 't', ' '), 5);
        DUE.is("6: feed(3, ..)", x.feed(3, '1', ';', 255, 'x', 'y'), 8);
        DUE.is("7: the 255 is the fault", x.text(), -107);
        for (int i = 1; i <= 31; i++) {
            DUE.is("6: feed(5, ..)", x.feed(5, ' ', ' ', ' ', ' ', ' '), 5 * i);
        }
        DUE.is("6: feed(2, ..)", x.feed(2, ' ', ' ', 0, 0, 0), 157);
        DUE.is("6: no room for 4", x.feed(4, ' ', ' ', ' ', ' ', ' '), OneNet.FULL);
        DUE.is("6: none came", x.count(5), 157);
        DUE.is("6: room for 3", x.feed(3, ' ', ' ', ' ', ' ', ' '), 160);
        DUE.is("6: BAD ahead of FULL", x.feed(1, 999, 0, 0, 0, 0), OneNet.BAD);
        DUE.is("6: no room for 1", x.feed(1, ' ', 0, 0, 0, 0), OneNet.FULL);
        DUE.is("7: it ends too early", x.text(), -260);
    }

    private static void texts() {
        OneNet x = new OneNet();
        DUE.is("7: a text", Nets.read(x, "felt 1;slope 2;bears 3;"), 1);
        DUE.is("7: the tape is empty then", x.count(5), 0);
        DUE.is("7: blanks", Nets.read(x, " \n felt\n1 ;slope 2;bears\n\n3 ; \n"), 2);
        DUE.is("7: a fault", Nets.read(x, "felt"), -104);
        DUE.is("7: the tape is empty then, too", x.count(5), 0);
        DUE.is("7: a text is not made by a fault", x.count(3), 3);
        for (int t = 3; t < 6; t++) {
            DUE.is("7: a text", Nets.read(x, "felt 1;slope 2;bears 3;"), t);
        }
        Nets.feed(x, "felt");
        DUE.is("7: FULL ahead of the fault", x.text(), OneNet.FULL);
        DUE.is("7: the tape stays", x.count(5), 4);
        DUE.is("5: six texts", x.count(3), 6);
    }

    private static void fault(String text, int place) {
        DUE.is("7: \"" + text + "\"", Nets.read(new OneNet(), text), -100 - place);
    }

    private static void faults() {
        fault("", 0);
        fault("  ", 2);
        fault("slope 1;", 0);
        fault("felt 1; felt 1;", 8);
        fault("felt 1 ", 7);
        fault("felt ; slope 1; bears 1;", 5);
        fault("felt 1; slope 2; bears 3", 24);
        fault("felt 1; slope 2; bears 3; x", 26);
        fault("felt 1; slope 2; bears 3;;", 25);
        fault("felt 1; slope 2; bears 3; \n\t", 27);
        fault("felt 12345" + REST, 5);
        fault("felt 00001" + REST, 5);
        fault("felt 1 12345" + REST, 7);
        fault("felt 1 2" + REST, 7);
        fault("felt told5" + REST, 9);
        fault("felt 5told" + REST, 6);
        fault("felt tolda" + REST, 5);
        fault("felt tol" + REST, 5);
        fault("feltt 1" + REST, 0);
        fault("fel", 0);
        fault("felt 1 + slope" + REST, 9);
        fault("felt 1 +" + REST, 8);
        fault("felt + 1" + REST, 5);
        fault("felt 1 < 2 < 3" + REST, 11);
        fault("felt 1 = 2 = 3" + REST, 11);
        fault("felt 1 + not 1" + REST, 9);
        fault("felt 1 < not 1" + REST, 9);
        fault("felt - not 1" + REST, 7);
        fault("felt 1 not 1" + REST, 7);
        fault("felt 1 or" + REST, 9);
        fault("felt or 1" + REST, 5);
        fault("felt (1" + REST, 7);
        fault("felt 1)" + REST, 6);
        fault("felt ()" + REST, 6);
        fault("felt 1 / 2" + REST, 7);
        fault("felt Told" + REST, 5);
        fault("felt 1\t" + REST, 6);
        fault("felt 1" + (char) 200 + REST, 6);
        fault("felt 1 $ 12345 (", 7);
    }

    private static void nesting() {
        String[] ones = {"(((((1)))))", "not not not not not 1", "- - - - - 1", "-(-(-1))", "not (not (not 1))",
            "((((1)+(1)))) + (((((1)))))", "not not not not (1) and not not not not not 2", "-1 - 1 - 1 - 1 - 1 - 1 - 1",
            "-----1 * -----1", "(1)*(1)*(1)*(1)*(1)*(1)*(1)"};
        for (String one : ones) {
            DUE.is("7: \"" + one + "\"", Nets.read(new OneNet(), "felt " + one + REST), 1);
        }
        fault("felt ((((((1))))))" + REST, 10);
        fault("felt not not not not not not 1" + REST, 25);
        fault("felt ------1" + REST, 10);
        fault("felt not(not(not(1)))" + REST, 16);
        fault("felt -(-(-(1)))" + REST, 10);
        fault("felt (((((1 + -1)))))" + REST, 14);
        fault("felt ((((((", 10);
        fault("felt not not not - - (1)" + REST, 21);
        OneNet x = new OneNet();
        for (int i = 0; i < 3; i++) {
            DUE.is("7: behind a fault 5 may be open again", Nets.read(x, "felt ((((((1))))))" + REST), -110);
        }
        DUE.is("7: behind a fault 5 may be open again", Nets.read(x, "felt (((((1)))))" + REST), 1);
    }

    private static void forcing() {
        OneNet x = new OneNet();
        DUE.is("8: force(1)", x.force(1), OneNet.BAD);
        DUE.is("8: force(-1)", x.force(-1), OneNet.BAD);
        DUE.is("8: force(0)", x.force(0), 0);
        Nets.read(x, "felt 1; slope 2; bears 3;");
        Nets.read(x, "felt 4; slope 5; bears 6;");
        DUE.is("8: force(2)", x.force(2), 0);
        DUE.is("8: force(1)", x.force(1), 2);
        DUE.is("8: force(3)", x.force(3), OneNet.BAD);
        DUE.is("8: count(4)", x.count(4), 1);
        DUE.is("8: its part 1", x.asks(1, 0, 0, 0, 0), 2);
        x.force(2);
        DUE.is("8: the other's part 1", x.asks(1, 0, 0, 0, 0), 5);
    }

    private static void asking() {
        OneNet x = new OneNet();
        DUE.is("9: felt by TEXT 0", x.asks(0, 57, 2, 9, 12), 7 * 4 + 8 - 6);
        DUE.is("9: felt, 0 at least", x.asks(0, 50, 20, 9, 12), 0);
        DUE.is("9: slope by TEXT 0", x.asks(1, 57, 2, 9, 12), 2);
        DUE.is("9: bears by TEXT 0", x.asks(2, 57, 2, 9, 12), 60);
        DUE.is("9: asks(3, ..)", x.asks(3, 0, 0, 0, 0), OneNet.BAD);
        DUE.is("9: asks(-1, ..)", x.asks(-1, 0, 0, 0, 0), OneNet.BAD);
        int[] most = {999, 20, 999, 199};
        for (int i = 0; i < 4; i++) {
            int[] v = {0, 0, 0, 0};
            v[i] = most[i];
            DUE.isTrue("9: number " + i + " at its most", x.asks(0, v[0], v[1], v[2], v[3]) >= 0);
            v[i] = most[i] + 1;
            DUE.is("9: number " + i + " above its most", x.asks(0, v[0], v[1], v[2], v[3]), OneNet.BAD);
            v[i] = -1;
            DUE.is("9: number " + i + " is -1", x.asks(0, v[0], v[1], v[2], v[3]), OneNet.BAD);
        }
    }

    /** What each part says when its text says one below, at, and one above its least and its most. */
    private static void boundsOfParts() {
        int[] most = {99, 99, 999};
        for (int part = 0; part < 3; part++) {
            int[] told = {-9999, -1, 0, 1, most[part] - 1, most[part], most[part] + 1, 9999};
            for (int v : told) {
                OneNet x = new OneNet();
                String e = v < 0 ? "0 - " + -v : "" + v;
                Nets.obey(x, "felt " + (part == 0 ? e : "5") + "; slope " + (part == 1 ? e : "5") + "; bears "
                        + (part == 2 ? e : "5") + ";");
                DUE.is("9: part " + part + " says " + v, x.asks(part, 0, 0, 0, 0), Math.max(0, Math.min(most[part], v)));
                DUE.is("9: another part than " + part, x.asks((part + 1) % 3, 0, 0, 0, 0), 5);
            }
        }
    }

    private static void leastAndMostNames() {
        String[] names = {"told", "more", "far", "weight", "knot", "who"};
        int[] most = {99, 9, 20, 999, 19, 9};
        for (int i = 0; i < 6; i++) {
            OneNet x = new OneNet();
            Nets.obey(x, "felt " + names[i] + "; slope " + names[i] + "; bears " + names[i] + ";");
            for (int part = 0; part < 3; part++) {
                DUE.is("9: the least " + names[i], x.asks(part, 0, 0, 0, 0), 0);
                DUE.is("9: the most " + names[i], x.asks(part, 999, 20, 999, 199), part < 2 ? Math.min(99, most[i]) : most[i]);
            }
        }
    }

    private static void says(String e, int want) {
        OneNet x = new OneNet();
        Nets.obey(x, "felt 0; slope 0; bears " + e + ";");
        DUE.is("9: bears " + e, x.asks(2, 987, 20, 654, 193), want);
    }

    private static void meaning() {
        says("told", 98);
        says("more", 7);
        says("far", 20);
        says("weight", 654);
        says("knot", 19);
        says("who", 3);
        says("2 + 3 * 4", 14);
        says("(2 + 3) * 4", 20);
        says("20 - 3 - 4", 13);
        says("20 - 3 + 4", 21);
        says("- 3 + 10", 7);
        says("10 * - 2 + 25", 5);
        says("--7", 7);
        says("1 - 2", 0);
        says("9999", 999);
        says("999", 999);
        says("7 or 0", 1);
        says("0 or 0", 0);
        says("7 and 8", 1);
        says("7 and 0", 0);
        says("0 and 0 or 1", 1);
        says("1 or 1 and 0", 1);
        says("(1 or 1) and 0", 0);
        says("not 7", 0);
        says("not 0", 1);
        says("not not 7", 1);
        says("not 1 = 0", 1);
        says("not 0 and 0", 0);
        says("1 < 2", 1);
        says("2 < 2", 0);
        says("-1 < 0", 1);
        says("2 = 2", 1);
        says("2 = 1 + 1", 1);
        says("(1 < 2) * 5", 5);
        says("1 < 2 + 5", 1);
        says("7", 7);
        says("0007", 7);
        says("9999*9999*9999*9999 < 0", 9999 * 9999 * 9999 * 9999 < 0 ? 1 : 0);
        says("9999*9999*9999*9999*9999 < 0", 9999 * 9999 * 9999 * 9999 * 9999 < 0 ? 1 : 0);
        says("9999*9999*50 < 0", 9999 * 9999 * 50 < 0 ? 1 : 0);
        OneNet x = new OneNet();
        Nets.obey(x, "felt 100; slope 100; bears 1000;");
        DUE.is("9: felt, 99 at most", x.asks(0, 0, 0, 0, 0), 99);
        DUE.is("9: slope, 99 at most", x.asks(1, 0, 0, 0, 0), 99);
        DUE.is("9: bears, 999 at most", x.asks(2, 0, 0, 0, 0), 999);
        Nets.obey(x, "felt 0-1; slope 0-1; bears 0-1;");
        for (int part = 0; part < 3; part++) {
            DUE.is("9: 0 at least", x.asks(part, 0, 0, 0, 0), 0);
        }
    }

    /** An E is an int: 4096 * 4096 * 128 is the least of all, one less the greatest, 4096 * 4096 * 256 is 0. */
    private static void wrapping() {
        says("4096*4096*127 < 0", 0);
        says("4096*4096*128 < 0", 1);
        says("4096*4096*128", 0);
        says("4096*4096*128 - 1", 999);
        says("0 < 4096*4096*128 - 1", 1);
        says("4096*4096*128 - 1 + 1 < 0", 1);
        says("- (4096*4096*128) < 0", 1);
        says("- (4096*4096*128) = 4096*4096*128", 1);
        says("4096*4096*128 < 4096*4096*128 - 1", 1);
        says("4096*4096*128 - 1 < 4096*4096*128", 0);
        says("4096*4096*128 - 1 < -1", 0);
        says("4096*4096*256 = 0", 1);
        says("4096*4096*256 + 7", 7);
        says("4096*4096*256 or 0", 0);
        says("4096*4096*128 or 0", 1);
    }

    /** What is not 0 is true. */
    private static void truth() {
        says("-1 and 1", 1);
        says("1 and -1", 1);
        says("-1 and -1", 1);
        says("-1 and 0", 0);
        says("-1 or 0", 1);
        says("0 or -1", 1);
        says("not -1", 0);
        says("5 and 7", 1);
        says("5 or 7", 1);
        says("(5 < 7) + (7 = 7) + (not 0)", 3);
    }
}
