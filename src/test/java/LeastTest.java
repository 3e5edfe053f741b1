/** Promises 26 to 34 and 36 to 48: the least and gentlest weeks, all at once, and leaks ahead. */
public final class LeastTest {
    /** Lies that win nothing: none lies between what is believed at first and what is so. */
    private static final String VAIN_LIES =
            "desk states 3 really 2 days 3 heal 0 leak 50; grades 0 40 80; hearer thinks 1 1 1;"
            + "word shame 7 of 2; word shame 9 of 1 0; word shame 3 of 1;";

    public static void main(String[] args) {
        leastWeeks();
        liesThatSoften();
        weeksThatAreNone();
        allAtOnce();
        statesAndWords();
        evenSteps();
        leaksAhead();
        noDesk();
        Kit.finish();
    }

    private static void leastWeeks() {
        GentleLetters x = Kit.told(Kit.SAMPLE);
        Kit.due("27: 63000 and 72000", x.least(0), 135000);
        int[] first = {0, 1, 0, 0};
        int[] gentle = {0, 0, 0, 1};
        for (int day = 0; day < 4; day++) {
            Kit.due("28: step(0, " + day + ")", x.step(0, day), first[day]);
            Kit.due("30: honest(0, " + day + ")", x.honest(0, day), first[day]);
            Kit.due("32: gently(0, " + day + ")", x.gently(0, day), gentle[day]);
            Kit.due("34: tenderly(0, " + day + ")", x.tenderly(0, day), gentle[day]);
            Kit.due("28: step(1, " + day + ")", x.step(1, day), gentle[day]);
        }
        Kit.due("27: least(1)", x.least(1), 0);
        Kit.due("29: truly(0)", x.truly(0), 135000);
        Kit.due("31: gentlest(0)", x.gentlest(0), 90000);
        Kit.due("33: tender(0)", x.tender(0), 90000);
        Kit.due("26: rest(0)", x.rest(0), 0);
        Kit.due("36: fewest()", x.fewest(), 1);
        Kit.due("42: idle()", x.idle(), 4);
        Kit.due("43: enough(0)", x.enough(0), 4);
        Kit.due("43: enough(1)", x.enough(1), 1);
        for (int hearer = -1; hearer <= 2; hearer += 3) {
            Kit.due("26: rest of none", x.rest(hearer), -2);
            Kit.due("27: least of none", x.least(hearer), -2);
            Kit.due("28: step of none", x.step(hearer, 0), -2);
            Kit.due("29: truly of none", x.truly(hearer), -2);
            Kit.due("30: honest of none", x.honest(hearer, 0), -2);
            Kit.due("31: gentlest of none", x.gentlest(hearer), -2);
            Kit.due("32: gently of none", x.gently(hearer, 0), -2);
            Kit.due("33: tender of none", x.tender(hearer), -2);
            Kit.due("34: tenderly of none", x.tenderly(hearer, 0), -2);
            Kit.due("43: enough of none", x.enough(hearer), -2);
        }
        for (int day = -1; day <= 4; day += 5) {
            Kit.due("28: step on day " + day, x.step(0, day), -2);
            Kit.due("30: honest on day " + day, x.honest(0, day), -2);
            Kit.due("32: gently on day " + day, x.gently(0, day), -2);
            Kit.due("34: tenderly on day " + day, x.tenderly(0, day), -2);
        }
    }

    private static void liesThatSoften() {
        GentleLetters x = Kit.told(VAIN_LIES);
        // 4000 to 8000 at once is 160000. Words 1, 2: 3 believed is 2000, 2 is 4000: nothing is won by them
        Kit.due("27: least(0)", x.least(0), 160000);
        Kit.due("28: true words alone, the least row", x.step(0, 0) * 100 + x.step(0, 1) * 10 + x.step(0, 2), 0);
        Kit.due("31: gentlest(0)", x.gentlest(0), 160000);
        // 0 1 1 and 0 1 8 are not known at the end; all rows that end with 0 and hurt no more than 160000:
        // 0 0 0 is the least
        Kit.due("32: gently", x.gently(0, 0) * 100 + x.gently(0, 1) * 10 + x.gently(0, 2), 0);
        Kit.due("42: words never used", x.idle(), 6);
        // from 677 to 9900 a lie of 5000 halves the step
        GentleLetters y = Kit.told("desk states 3 really 2 days 4 heal 0 leak 0; grades 0 50 99; hearer thinks 20 1 1;"
                + "word shame 100 of 2; word shame 999 of 1;");
        int all = 100 * 149 / 22;
        int straight = (9900 - all) * (9900 - all) / 100;
        int first = (5000 - all) * (5000 - all) / 100;
        int second = 4900 * 4900 / 100;
        Kit.due("27: by a lie, shame paid", y.least(0), first + second + 999);
        Kit.due("28: the lie first", y.step(0, 0), 1);
        Kit.due("28: then the truth", y.step(0, 1), 0);
        Kit.due("28: and so on", y.step(0, 3), 0);
        Kit.due("29: truly", y.truly(0), straight);
        Kit.due("30: honest", y.honest(0, 0), 0);
        Kit.due("31: gentlest, shame aside", y.gentlest(0), Math.max(first, second));
        Kit.due("32: gently: the lie must come first", y.gently(0, 0), 1);
        Kit.due("32: then the truth may", y.gently(0, 1), 0);
        Kit.due("33: tender", y.tender(0), straight);
        Kit.due("34: tenderly", y.tenderly(0, 0), 0);
        Kit.due("42: none is idle", y.idle(), 0);
        Kit.due("43: two days are enough", y.enough(0), 2);
    }

    private static void weeksThatAreNone() {
        // known by the two words together alone
        GentleLetters x = Kit.told("desk states 3 really 1 days 2 heal 0 leak 0; grades 5 6 7; hearer thinks 1 1 1;"
                + "word shame 1 of 0 1; word shame 1 of 1 2;");
        Kit.due("36: two words", x.fewest(), 2);
        Kit.due("41: 0 and 2 can't be told", x.unsaid(), 5);
        Kit.due("27: least", x.least(0), 25);
        GentleLetters y = Kit.told("desk states 3 really 1 days 1 heal 0 leak 0; grades 5 6 7; hearer thinks 1 1 1;"
                + "word shame 1 of 0 1; word shame 1 of 1 2;");
        Kit.due("36: one day is too few", y.fewest(), -1);
        Kit.due("26: rest", y.rest(0), -1);
        Kit.due("27: least", y.least(0), -1);
        Kit.due("28: step", y.step(0, 0), -1);
        Kit.due("28: no such day all the same", y.step(0, 1), -2);
        Kit.due("29: truly", y.truly(0), -1);
        Kit.due("30: honest", y.honest(0, 0), -1);
        Kit.due("31: gentlest", y.gentlest(0), -1);
        Kit.due("32: gently", y.gently(0, 0), -1);
        Kit.due("33: tender", y.tender(0), -1);
        Kit.due("34: tenderly", y.tenderly(0, 0), -1);
        Kit.due("43: enough", y.enough(0), -1);
        Kit.due("42: all words idle", y.idle(), 3);
        Kit.due("41: the days do not matter there", y.unsaid(), 5);
        // 0 stands in no word but with 1, and no other word parts them
        GentleLetters z = Kit.told("desk states 3 really 0 days 3 heal 0 leak 0; grades 0 10 20; hearer thinks 1 1 1;"
                + "word shame 4 of 0 1; word shame 5 of 1 2; word shame 6 of 2;");
        Kit.due("29: never truly", z.truly(0), -1);
        Kit.due("33: never tenderly", z.tender(0), -1);
        Kit.due("27: nor by lies", z.least(0), -1);
    }

    private static void allAtOnce() {
        GentleLetters x = Kit.told(Kit.SAMPLE);
        Kit.due("37: once(0)", x.once(0), 360000);
        Kit.due("37: once(1)", x.once(1), 0);
        Kit.due("37: once(2)", x.once(2), -2);
        Kit.due("38: late(0, 360000)", x.late(0, 360000), 3);
        Kit.due("38: late(0, 359999)", x.late(0, 359999), 2);
        Kit.due("38: late(0, 324000)", x.late(0, 324000), 2);
        Kit.due("38: late(0, 252000)", x.late(0, 252000), 0);
        Kit.due("38: late(0, 251999)", x.late(0, 251999), -1);
        Kit.due("38: late(1, 0)", x.late(1, 0), 3);
        Kit.due("38: late(0, -1)", x.late(0, -1), -2);
        Kit.due("38: late(2, 0)", x.late(2, 0), -2);
        Kit.due("39: calm(0, 7)", x.calm(0, 7), 3);
        Kit.due("39: calm(0, 1)", x.calm(0, 1), 1);
        Kit.due("39: calm(1, 7)", x.calm(1, 7), 7);
        Kit.due("39: calm(0, 0)", x.calm(0, 0), -2);
        Kit.due("39: calm(0, 8)", x.calm(0, 8), -2);
        Kit.due("39: calm(2, 7)", x.calm(2, 7), -2);
        Kit.due("40: shock(0)", x.shock(0), 2);
        Kit.due("40: shock(1), all alike: the first", x.shock(1), 0);
        Kit.due("40: shock(2)", x.shock(2), -2);
        GentleLetters y = Kit.told("desk states 3 really 0 days 1 heal 0 leak 0; grades 1 9 9; hearer thinks 3 1 1;");
        Kit.due("40: the first of several", y.shock(0), 1);
        // a rise of 14 is 196 squared, 1 by 100; one of 5 is 25, by 100 nothing
        GentleLetters z = Kit.told("desk states 2 really 0 days 1 heal 0 leak 0; grades 0 1;"
                + "hearer thinks 3 20; hearer thinks 1 20;");
        Kit.due("40: the least hurt", z.shock(0), 1);
        Kit.due("39: the least hurt", z.calm(0, 3), 1);
        Kit.due("40: none at all", z.shock(1), 0);
        Kit.due("39: none at all", z.calm(1, 3), 3);
    }

    private static void statesAndWords() {
        GentleLetters x = Kit.told(Kit.SAMPLE);
        // 0 by word 2; 1 is in word 0 alone, with 2; 2 by word 1
        Kit.due("41: unsaid()", x.unsaid(), 2);
        GentleLetters y = Kit.told("desk states 2 really 0 days 1 heal 0 leak 0;");
        Kit.due("41: no words", y.unsaid(), 3);
        Kit.due("42: no words", y.idle(), 0);
        Kit.due("36: no words", y.fewest(), -1);
        GentleLetters z = Kit.told("desk states 2 really 0 days 1 heal 0 leak 0; word shame 0 of 0; word shame 0 of 1;");
        Kit.due("42: no hearers, all words idle", z.idle(), 3);
        Kit.due("41: both can be told", z.unsaid(), 0);
    }

    private static void evenSteps() {
        GentleLetters x = new GentleLetters();
        Kit.due("44: even(10, 3)", x.even(10, 3), 34);
        Kit.due("44: even(10000, 1)", x.even(10000, 1), 100000000);
        Kit.due("44: even(3, 100)", x.even(3, 100), 3);
        Kit.due("44: even(10001, 1)", x.even(10001, 1), -2);
        Kit.due("44: even(-1, 1)", x.even(-1, 1), -2);
        Kit.due("44: even(1, 0)", x.even(1, 0), -2);
        Kit.due("44: even(1, 101)", x.even(1, 101), -2);
        Kit.due("45: steps(10, 7)", x.steps(10, 7), 4);
        Kit.due("45: steps(10, 0): ten ones, no less", x.steps(10, 0), 10);
        Kit.due("45: steps(10000, 0)", x.steps(10000, 0), 100);
        Kit.due("45: steps(10000, 100000)", x.steps(10000, 100000), 32);
        Kit.due("45: steps(0, 0), the least", x.steps(0, 0), 1);
        Kit.due("45: steps(2, 2): 4 and 2, 2 and 4", x.steps(2, 2), 1);
        Kit.due("45: steps(10001, 0)", x.steps(10001, 0), -2);
        Kit.due("45: steps(-1, 0)", x.steps(-1, 0), -2);
        Kit.due("45: steps(0, -1)", x.steps(0, -1), -2);
        Kit.due("45: steps(0, 100001)", x.steps(0, 100001), -2);
    }

    private static void leaksAhead() {
        GentleLetters x = Kit.told(Kit.SAMPLE);
        Kit.due("46: risk(0)", x.risk(0), 135000);
        Kit.due("46: risk(1)", x.risk(1), 0);
        Kit.due("46: risk(2)", x.risk(2), -2);
        Kit.due("47: now(0, 0, 7)", x.now(0, 0, 7), 0);
        Kit.due("47: now(0, 1, 7)", x.now(0, 1, 7), 0);
        Kit.due("47: now(0, 2, 7), 152000 by silence", x.now(0, 2, 7), 8);
        Kit.due("47: now(0, 3, 7), 100000 by silence", x.now(0, 3, 7), 8);
        Kit.due("47: now(0, 3, 6)", x.now(0, 3, 6), 1);
        Kit.due("47: now(0, 3, 4), known: the least true one", x.now(0, 3, 4), 0);
        Kit.due("47: now(1, 3, 7)", x.now(1, 3, 7), 1);
        Kit.due("47: day 4", x.now(0, 4, 7), -2);
        Kit.due("47: day -1", x.now(0, -1, 7), -2);
        Kit.due("47: belief 0", x.now(0, 0, 0), -2);
        Kit.due("47: belief 8", x.now(0, 0, 8), -2);
        Kit.due("47: hearer 2", x.now(2, 0, 7), -2);
        Kit.due("48: soon(0, 0)", x.soon(0, 0), 0);
        Kit.due("48: soon(0, 1)", x.soon(0, 1), 252000);
        Kit.due("48: soon(1, 1)", x.soon(1, 1), 0);
        Kit.due("48: what 2", x.soon(0, 2), -2);
        Kit.due("48: what -1", x.soon(0, -1), -2);
        Kit.due("48: hearer 2", x.soon(2, 0), -2);
        // no words: silence, and on day 1 by half a leak of 9900 less 4950 squared
        GentleLetters y = Kit.told("desk states 2 really 1 days 2 heal 0 leak 50; grades 0 99; hearer thinks 1 1;");
        Kit.due("46: (245025 and 100000) halved, cut", y.risk(0), 172512);
        Kit.due("47: silence", y.now(0, 0, 3), 8);
        GentleLetters z = Kit.told("desk states 2 really 1 days 1 heal 0 leak 100; grades 0 99; hearer thinks 1 1;");
        Kit.due("46: no leak on day 0", z.risk(0), 100000);
    }

    private static void noDesk() {
        GentleLetters x = new GentleLetters();
        Kit.due("36: no desk", x.fewest(), -2);
        Kit.due("41: no desk", x.unsaid(), -2);
        Kit.due("42: no desk", x.idle(), -2);
        Kit.due("46: no desk", x.risk(0), -2);
        Kit.due("27: no desk", x.least(0), -2);
    }
}
