/** Promises 1 to 11: the tape, the text of a desk with its faults, and what the desk then tells. */
public final class DeskTest {
    private static final String HEAD = "desk states 2 really 1 days 3 heal 5 leak 7 ;";

    public static void main(String[] args) {
        newObject();
        tape();
        deskTaken();
        faultAsked();
        faultsOfTokens();
        faultsOfHead();
        faultsOfLines();
        faultsOfCounts();
        whatTheDeskTells();
        Kit.finish();
    }

    private static void newObject() {
        GentleLetters x = new GentleLetters();
        for (int what = 0; what <= 12; what++) {
            Kit.due("1: new count(" + what + ")", x.count(what), 0);
        }
        Kit.due("1: new grade(0)", x.grade(0), -2);
        Kit.due("1: NONE", GentleLetters.NONE, -1);
    }

    private static void tape() {
        GentleLetters x = new GentleLetters();
        Kit.due("2: first feed", x.feed(1, 2, 3, 4, 5), 20);
        for (int i = 2; i <= 45; i++) {
            Kit.due("2: feed " + i, x.feed(i, i, i, i, i), 20 * i);
        }
        Kit.due("2: feed beyond 900", x.feed(0, 0, 0, 0, 0), -1);
        Kit.due("2: tape stays", x.count(10), 900);
        Kit.due("3: end(901)", x.end(901), -1);
        Kit.due("3: end(-1)", x.end(-1), -1);
        Kit.due("3: end(MIN)", x.end(Integer.MIN_VALUE), -1);
        Kit.due("3: tape stays", x.count(10), 900);
        Kit.due("3: end(900)", x.end(900), 900);
        Kit.due("3: end(881)", x.end(881), 881);
        Kit.due("2: 901 would be too many", x.feed(0, 0, 0, 0, 0), -1);
        Kit.due("3: end(880)", x.end(880), 880);
        Kit.due("2: 900 fit", x.feed(0, 0, 0, 0, 0), 900);
        Kit.due("3: end(0)", x.end(0), 0);
        Kit.due("3: tape is empty", x.count(10), 0);
        // the highest byte of each number comes first: "desk sta" "tes" ..
        x.feed(0x6465736b, 0x20737461, 0x74657320, 0x32207265, 0x616c6c79);
        x.feed(0x20302064, 0x61797320, 0x31206865, 0x616c2030, 0x206c6561);
        x.feed(0x6b203020, 0x3b202020, 0x20202020, 0x20202020, 0x202020ff);
        x.end(59);
        Kit.due("2: bytes in order", x.desk(), 1);
        Kit.due("2: states", x.count(0), 2);
    }

    private static void deskTaken() {
        GentleLetters x = new GentleLetters();
        Kit.due("4: empty tape", x.desk(), 0);
        Kit.type(x, " \n ");
        Kit.due("4: blanks alone", x.desk(), 0);
        Kit.due("4: tape empty then", x.count(10), 0);
        Kit.type(x, Kit.SAMPLE);
        Kit.due("4: lines of the sample", x.desk(), 13);
        Kit.due("4: tape empty behind it", x.count(10), 0);
        Kit.due("4: lines counted", x.count(9), 13);
        x.worsen(0, 9);
        Kit.type(x, HEAD + "grades 1 2;grades 3 4;hearer thinks 1 0;x");
        Kit.due("4: faulty text", x.desk(), -4);
        Kit.due("4: desk stays", x.count(0), 3);
        Kit.due("4: its changes stay", x.count(11), 1);
        Kit.due("4: its grade stays", x.grade(0), 9);
        Kit.due("4: tape stays", x.count(10), 86);
        x.end(85);
        Kit.due("4: cut and right", x.desk(), 4);
        Kit.due("4: a later grades strikes", x.grade(0), 3);
        Kit.due("4: and its second", x.grade(1), 4);
        Kit.due("4: another desk, no changes", x.count(11), 0);
        Kit.due("4: words of the other are gone", x.count(6), 0);
        Kit.due("4: empty in place of it", x.desk(), 0);
        for (int what = 0; what <= 12; what++) {
            Kit.due("4: there is none then, count(" + what + ")", x.count(what), 0);
        }
        Kit.due("4: nor a hearer", x.mean(0, 1), -2);
        Kit.type(x, HEAD);
        Kit.due("4: without grades", x.desk(), 1);
        Kit.due("4: all 0", x.grade(0) + x.grade(1), 0);
    }

    private static void faultAsked() {
        GentleLetters x = new GentleLetters();
        Kit.due("5: fault(0) ahead of any", x.fault(0), 0);
        Kit.due("5: fault(1) ahead of any", x.fault(1), -1);
        Kit.due("5: fault(2) ahead of any", x.fault(2), -1);
        Kit.type(x, "desk\nstates 1");
        x.desk();
        Kit.due("5: fault(0)", x.fault(0), 2);
        Kit.due("5: fault(1)", x.fault(1), 12);
        Kit.due("5: fault(2)", x.fault(2), -1);
        Kit.due("5: fault(-1)", x.fault(-1), -1);
        x.end(0);
        x.desk();
        Kit.due("5: fault(0) without", x.fault(0), 0);
        Kit.due("5: fault(1) without", x.fault(1), -1);
    }

    /** The text stands but for its end: the fault and its place are due. */
    private static void faulty(String text, int fault, int place) {
        GentleLetters x = new GentleLetters();
        Kit.type(x, text);
        Kit.due("5: desk() of " + text, x.desk(), -4);
        Kit.due("5: fault(0) of " + text, x.fault(0), fault);
        Kit.due("5: fault(1) of " + text, x.fault(1), place);
    }

    /** A fault of the text behind the head, its place counted from there. */
    private static void behindHead(String text, int fault, int place) {
        faulty(HEAD + text, fault, HEAD.length() + place);
    }

    private static void stands(String text, int lines) {
        GentleLetters x = new GentleLetters();
        Kit.type(x, text);
        Kit.due("4: desk() of " + text, x.desk(), lines);
        Kit.due("4: fault(0) of " + text, x.fault(0), 0);
    }

    private static void faultsOfTokens() {
        stands("desk\nstates\n2really 01days\n\n3heal 000leak 100;", 1);
        faulty("desk\tstates 2", 1, 4);
        faulty("Desk states 2", 1, 0);
        faulty("desk, states", 1, 4);
        faulty("\u0000", 1, 0);
        faulty("\u00ff", 1, 0);
        faulty("desk states 2 really 0 days 1 heal 0 leak 0 ;\r", 1, 45);
        faulty("desks states 2", 1, 0);
        faulty("des", 1, 0);
        faulty("xesk states 2 really 0 days 1 heal 0 leak 0;", 1, 0);
        faulty("desx states 2 really 0 days 1 heal 0 leak 0;", 1, 0);
        faulty("desk xtates 2 really 0 days 1 heal 0 leak 0;", 1, 5);
        faulty("deskstates 2", 1, 0);
        faulty(";", 1, 0);
        faulty("7", 1, 0);
        faulty("grades 1 2;", 1, 0);
        behindHead(" desk states 2 really 0 days 1 heal 0 leak 0 ;", 1, 1);
        behindHead(" ;", 1, 1);
        behindHead("tell 0 1;", 1, 0);
        behindHead("12;", 1, 0);
        stands(HEAD + "\n ", 1);
    }

    private static void faultsOfHead() {
        faulty("desk", 1, 4);
        faulty("desk \n", 1, 6);
        faulty("desk states", 1, 11);
        faulty("desk states;", 1, 11);
        faulty("desk states 1 oops", 2, 12);
        faulty("desk states 9 oops", 2, 12);
        faulty("desk states 99999999999999999999 oops", 2, 12);
        faulty("desk states 4294967298 oops", 2, 12);
        faulty("desk states 2 days", 1, 14);
        faulty("desk states 2 really 2", 2, 21);
        faulty("desk states 8 really 8", 2, 21);
        faulty("desk states 8 really 7 days 0", 2, 28);
        faulty("desk states 8 really 7 days 11", 2, 28);
        faulty("desk states 8 really 7 days 10 heal 101", 2, 36);
        faulty("desk states 8 really 7 days 10 heal 100 leak 101", 2, 45);
        faulty("desk states 8 really 7 days 10 heal 100 leak 100", 1, 48);
        faulty("desk states 8 really 7 days 10 heal 100 leak 100 5", 1, 49);
        stands("desk states 8 really 7 days 10 heal 100 leak 100;", 1);
        stands("desk states 2 really 0 days 1 heal 0 leak 0;", 1);
    }

    private static void faultsOfLines() {
        behindHead("grades 1;", 1, 8);
        behindHead("grades ;", 1, 7);
        behindHead("grades 1 2 3;", 1, 11);
        behindHead("grades 1 2 300;", 1, 11);
        behindHead("grades 1 100;", 2, 9);
        behindHead("grades 99 99", 1, 12);
        behindHead("hearer ;", 1, 7);
        behindHead("word ;", 1, 5);
        behindHead("news ;", 1, 5);
        behindHead("tells ;", 1, 6);
        behindHead("hearer 1 2;", 1, 7);
        behindHead("hearer thinks 1;", 1, 15);
        behindHead("hearer thinks 1 reckons 2;", 1, 16);
        behindHead("hearer thinks 1 2 3;", 1, 18);
        behindHead("hearer thinks 21 0;", 2, 14);
        behindHead("hearer thinks 0 0;", 2, 16);
        behindHead("hearer thinks 0 21;", 2, 16);
        stands(HEAD + "hearer thinks 0 1; hearer thinks 1 0; hearer thinks 20 20 reckons 5;", 4);
        behindHead("hearer thinks 1 1 reckons;", 1, 25);
        behindHead("hearer thinks 1 1 reckons 0;", 2, 26);
        behindHead("hearer thinks 1 1 reckons 6;", 2, 26);
        behindHead("hearer thinks 1 1 reckons 1 2;", 1, 28);
        behindHead("hearer thinks 1 1 reckons 1 reckons 1;", 1, 28);
        behindHead("word of 1;", 1, 5);
        behindHead("word shame 1000 of 1;", 2, 11);
        behindHead("word shame 999 of ;", 1, 18);
        behindHead("word shame 999 of 2;", 2, 18);
        behindHead("word shame 999 of 1 0 1 2;", 2, 24);
        behindHead("word shame 999 of 1 of;", 1, 20);
        stands(HEAD + "word shame 999 of 1 0 1 0 0 0 0 0 0 0 0 0 1;", 2);
        behindHead("news 5;", 1, 5);
        behindHead("news worse 5;", 1, 5);
        behindHead("news good 0;", 2, 10);
        behindHead("news bad 100;", 2, 9);
        behindHead("news bad good 1;", 1, 9);
        stands(HEAD + "news bad 99; news good 1;", 3);
    }

    private static void faultsOfCounts() {
        String hearer = "hearer thinks 1 1;";
        String word = "word shame 0 of 0;";
        behindHead("tells 0 1;", 2, 6);
        behindHead(hearer + "tells 0 1;", 2, 26);
        behindHead(hearer + hearer + "tells 1 1;", 2, 44);
        behindHead(hearer + hearer + "tells 1;", 1, 43);
        behindHead(hearer + hearer + "tells 1 0 0;", 1, 46);
        stands(HEAD + hearer + hearer + "tells 1 0; tells 1 0;", 5);
        behindHead(hearer + hearer + hearer + hearer + "hearer oops", 3, 72);
        behindHead(word + word + word + word + word + word + word + word + " word ;", 3, 145);
        behindHead("plan 0;", 2, 5);
        behindHead("plan ;", 1, 5);
        behindHead(word + "plan 1;", 2, 23);
        behindHead(word + "plan 0 0 0 0 0 0;", 3, 33);
        behindHead(word + "plan 0 0 0 0 0 1;", 2, 33);
        behindHead(word + "plan 0 0 0 0 0 x;", 1, 33);
        behindHead(word + "plan 0;plan 0;plan 0;plan 0;plan", 3, 46);
        stands(HEAD + word + "plan 0 0 0 0 0;plan 0;plan 0;plan 0;", 6);
        String six = "news bad 1;news bad 1;news bad 1;news bad 1;news bad 1;news bad 1;";
        behindHead(six + "news", 3, 66);
        stands(HEAD + six, 7);
    }

    private static void whatTheDeskTells() {
        GentleLetters x = Kit.told(Kit.SAMPLE);
        Kit.due("6: grade(2)", x.grade(2), 90);
        Kit.due("6: grade(3)", x.grade(3), -2);
        Kit.due("6: grade(-1)", x.grade(-1), -2);
        Kit.due("7: thinks(0, 0)", x.thinks(0, 0), 2);
        Kit.due("7: thinks(1, 2)", x.thinks(1, 2), 1);
        Kit.due("7: thinks(0, NONE)", x.thinks(0, -1), 0);
        Kit.due("7: thinks(1, NONE)", x.thinks(1, -1), 1);
        Kit.due("7: thinks(1, 3)", x.thinks(1, 3), -2);
        Kit.due("7: thinks(1, -2)", x.thinks(1, -2), -2);
        Kit.due("7: thinks(2, NONE)", x.thinks(2, -1), -2);
        Kit.due("7: thinks(-1, 0)", x.thinks(-1, 0), -2);
        Kit.due("8: word(0, 0)", x.word(0, 0), 50);
        Kit.due("8: word(0, 1)", x.word(0, 1), 6);
        Kit.due("8: word(0, 2)", x.word(0, 2), 1);
        Kit.due("8: word(2, 2)", x.word(2, 2), 0);
        Kit.due("8: word(2, 3)", x.word(2, 3), -2);
        Kit.due("8: word(2, -1)", x.word(2, -1), -2);
        Kit.due("8: word(3, 0)", x.word(3, 0), -2);
        Kit.due("8: word(8, 0)", x.word(8, 0), -2);
        Kit.due("9: plan(0, 1)", x.plan(0, 1), 1);
        Kit.due("9: plan(0, 2)", x.plan(0, 2), -1);
        Kit.due("9: plan(0, -1)", x.plan(0, -1), -1);
        Kit.due("9: plan(1, 0)", x.plan(1, 0), 2);
        Kit.due("9: plan(2, 0)", x.plan(2, 0), -2);
        Kit.due("9: plan(-1, 0)", x.plan(-1, 0), -2);
        Kit.due("10: news(0)", x.news(0), -10);
        Kit.due("10: news(1)", x.news(1), 4);
        Kit.due("10: news(3)", x.news(3), -1000);
        Kit.due("10: news(-1)", x.news(-1), -1000);
        Kit.due("11: tells(0)", x.tells(0), 2);
        Kit.due("11: tells(1)", x.tells(1), 0);
        Kit.due("11: tells(2)", x.tells(2), -2);
        Kit.due("11: tells(-1)", x.tells(-1), -2);
        GentleLetters y = Kit.told(HEAD + "word shame 3 of 1 0 1 1;");
        Kit.due("8: like states count once", y.word(0, 1), 3);
    }
}
