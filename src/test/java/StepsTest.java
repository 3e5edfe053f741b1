/** Promises 12 to 25 and 35: beliefs, single steps, and a slot's row told as a week. */
public final class StepsTest {
    public static void main(String[] args) {
        beliefs();
        singleSteps();
        rowsRefused();
        rowsTold();
        orders();
        hopes();
        Kit.finish();
    }

    private static void beliefs() {
        GentleLetters x = Kit.told(Kit.SAMPLE);
        Kit.due("12: mean(0, 7)", x.mean(0, 7), 3000);
        Kit.due("12: mean(0, 6)", x.mean(0, 6), 6000);
        Kit.due("12: mean(0, 3), cut", x.mean(0, 3), 1000);
        Kit.due("12: mean(1, 7)", x.mean(1, 7), 9000);
        Kit.due("12: mean(1, 3), all alike", x.mean(1, 3), 1500);
        Kit.due("12: mean(0, 0)", x.mean(0, 0), -2);
        Kit.due("12: mean(0, 8)", x.mean(0, 8), -2);
        Kit.due("12: mean(0, -1)", x.mean(0, -1), -2);
        Kit.due("12: mean(2, 7)", x.mean(2, 7), -2);
        Kit.due("13: 1 of 4", x.chance(0, 7, 1, 0), 1);
        Kit.due("13: of 4", x.chance(0, 7, 1, 1), 4);
        Kit.due("13: 2 of 4 above", x.chance(0, 7, 0, 0), 1);
        Kit.due("13: 2 of 4 below", x.chance(0, 7, 0, 1), 2);
        Kit.due("13: not believed above", x.chance(0, 6, 0, 0), 0);
        Kit.due("13: not believed below", x.chance(0, 6, 0, 1), 1);
        Kit.due("13: thought 0 above", x.chance(1, 7, 0, 0), 0);
        Kit.due("13: thought 0 below", x.chance(1, 7, 0, 1), 1);
        Kit.due("13: all alike above", x.chance(1, 3, 0, 0), 1);
        Kit.due("13: all alike below", x.chance(1, 3, 0, 1), 2);
        Kit.due("13: all alike, not believed, below", x.chance(1, 3, 2, 1), 1);
        Kit.due("13: certain above", x.chance(0, 4, 2, 0), 1);
        Kit.due("13: certain below", x.chance(0, 4, 2, 1), 1);
        Kit.due("13: what 2", x.chance(0, 7, 1, 2), -2);
        Kit.due("13: what -1", x.chance(0, 7, 1, -1), -2);
        Kit.due("13: state 3", x.chance(0, 7, 3, 0), -2);
        Kit.due("13: belief 0", x.chance(0, 0, 1, 0), -2);
        Kit.due("13: hearer 2", x.chance(2, 7, 1, 0), -2);
        Kit.due("14: behind(7, 0)", x.behind(7, 0), 6);
        Kit.due("14: behind(5, 0)", x.behind(5, 0), 4);
        Kit.due("14: behind(1, 0), none in it", x.behind(1, 0), 6);
        Kit.due("14: behind(5, 8)", x.behind(5, 8), 5);
        Kit.due("14: behind(5, 3)", x.behind(5, 3), -2);
        Kit.due("14: behind(5, 9)", x.behind(5, 9), -2);
        Kit.due("14: behind(5, -1)", x.behind(5, -1), -2);
        Kit.due("14: behind(0, 0)", x.behind(0, 0), -2);
        Kit.due("14: behind(8, 0)", x.behind(8, 0), -2);
    }

    private static void singleSteps() {
        GentleLetters x = Kit.told(Kit.SAMPLE);
        Kit.due("15: hurt(0, 7, 0)", x.hurt(0, 7, 0), 90000);
        Kit.due("15: hurt(0, 7, 1)", x.hurt(0, 7, 1), 360000);
        Kit.due("15: hurt(0, 7, 2), it falls", x.hurt(0, 7, 2), 0);
        Kit.due("15: hurt(0, 7, 8)", x.hurt(0, 7, 8), 0);
        Kit.due("15: hurt(0, 1, 1)", x.hurt(0, 1, 1), 810000);
        Kit.due("15: hurt(0, 7, 3)", x.hurt(0, 7, 3), -2);
        Kit.due("15: hurt(2, 7, 0)", x.hurt(2, 7, 0), -2);
        Kit.due("15: hurt(0, 0, 0)", x.hurt(0, 0, 0), -2);
        Kit.due("16: softest(0, 7)", x.softest(0, 7), 2);
        Kit.due("16: softest(1, 7), the first", x.softest(1, 7), 0);
        Kit.due("16: softest(0, 8)", x.softest(0, 8), -2);
        Kit.due("16: softest(2, 7)", x.softest(2, 7), -2);
        // a rise of 9 is squared 81, by 100, cut: 0; of 15 it is 2
        GentleLetters y = Kit.told("desk states 3 really 0 days 1 heal 0 leak 0; grades 1 2 0;"
                + "hearer thinks 20 2 0; word shame 0 of 0; word shame 0 of 1;");
        Kit.due("12: mean, cut", y.mean(0, 3), 109);
        Kit.due("15: a fall of 9", y.hurt(0, 3, 0), 0);
        Kit.due("15: a rise of 91", y.hurt(0, 3, 1), 82);
        GentleLetters z = Kit.told("desk states 2 really 0 days 1 heal 0 leak 0; hearer thinks 1 1;");
        Kit.due("16: no words", z.softest(0, 3), -1);
        Kit.due("16: no words, no such belief", z.softest(0, 4), -2);
    }

    private static void rowsRefused() {
        GentleLetters x = new GentleLetters();
        Kit.due("17: no desk, nothing", x.believes(0), -2);
        Kit.fill(x, 0, 0, 8);
        Kit.due("17: no desk", x.believes(0), -2);
        Kit.type(x, Kit.SAMPLE);
        x.desk();
        Kit.due("17: all at first", x.believes(0), 7);
        Kit.due("17: nothing", x.believes(1), -6);
        Kit.due("17: slot 4", x.believes(4), -2);
        Kit.due("17: slot -1", x.believes(-1), -2);
        Kit.due("18: no hearer ahead of nothing", x.hurts(1, 2), -2);
        Kit.due("18: nothing", x.hurts(1, 1), -6);
        Kit.due("18: hearer 2", x.hurts(0, 2), -2);
        Kit.due("19: nothing", x.worst(1, 1), -6);
        Kit.due("19: hearer -1", x.worst(0, -1), -2);
        Kit.due("20: nothing", x.left(1, 1), -6);
        Kit.due("20: hearer 2", x.left(0, 2), -2);
        Kit.due("21: nothing", x.lies(1), -6);
        Kit.due("22: nothing", x.shames(1), -6);
        Kit.due("23: nothing", x.known(1), -6);
        Kit.due("24: nothing", x.softer(1, 0), -6);
        Kit.due("25: nothing", x.ordered(1, 0, 0), -6);
        Kit.due("25: no hearer", x.ordered(0, 2, 0), -2);
        long[] bad = {3, 7, 9, -1, 1L << 32, Long.MIN_VALUE};
        for (long number : bad) {
            Kit.fill(x, 2, 3, 0, number);
            Kit.due("17: number " + number, x.believes(2), -2);
            Kit.due("18: number " + number, x.hurts(2, 0), -2);
            Kit.due("21: number " + number, x.lies(2), -2);
            Kit.due("24: number " + number, x.softer(2, 0), -2);
            Kit.due("25: number " + number, x.ordered(2, 0, 9), -2);
        }
        Kit.fill(x, 2, 0, 8, 8, 8, 8, 8);
        Kit.due("17: more than days", x.believes(2), -2);
        Kit.due("22: more than days", x.shames(2), -2);
        Kit.due("23: more than days", x.known(2), -2);
        Kit.fill(x, 2, 0, 8, 8, 8, 8);
        Kit.due("17: as many as days", x.believes(2), 7);
    }

    private static void rowsTold() {
        GentleLetters x = Kit.told(Kit.SAMPLE);
        Kit.fill(x, 0, 0, 0, 8, 1);
        Kit.due("17: 0 8 1", x.believes(0), 4);
        Kit.due("18: 0 8 1", x.hurts(0, 0), 180000);
        Kit.due("18: 0 8 1 of her who knows", x.hurts(0, 1), 0);
        Kit.due("19: 0 8 1", x.worst(0, 0), 90000);
        Kit.due("20: 70 and 90 of a hundred", x.left(0, 0), 63000 + 81000);
        Kit.due("21: 0 8 1", x.lies(0), -1);
        Kit.due("22: 0 8 1, all true", x.shames(0), 0);
        Kit.due("23: 0 8 1", x.known(0), 2);
        Kit.fill(x, 1, 1, 1, 2, 2, 1);
        Kit.due("17: 1 2 2 1", x.believes(1), 4);
        Kit.due("18: 1 2 2 1", x.hurts(1, 0), 360000 + 810000);
        Kit.due("19: 1 2 2 1", x.worst(1, 0), 810000);
        Kit.due("20: 1 2 2 1", x.left(1, 0), 252000 + 810000);
        Kit.due("21: 1 2 2 1", x.lies(1), 1);
        Kit.due("22: 1 2 2 1", x.shames(1), 40);
        Kit.due("23: 1 2 2 1, and so to its end", x.known(1), 3);
        Kit.fill(x, 1, 2, 1, 8, 0);
        Kit.due("23: 1 8 0, known all along", x.known(1), 0);
        Kit.fill(x, 1, 2, 1, 2);
        Kit.due("23: 1 2, no more", x.known(1), -1);
        x.row(1, 3, 0);
        Kit.due("17: a row of none", x.believes(1), 7);
        Kit.due("18: a row of none", x.hurts(1, 0), 0);
        Kit.due("19: a row of none", x.worst(1, 0), 0);
        Kit.due("20: a row of none", x.left(1, 0), 0);
        Kit.due("21: a row of none", x.lies(1), -1);
        Kit.due("22: a row of none", x.shames(1), 0);
        Kit.due("23: a row of none", x.known(1), -1);
        Kit.due("24: a row of none", x.softer(1, 0), 0);
        Kit.due("25: a row of none", x.ordered(1, 0, 0), -1);
        // heal 60: 100 less 60 times 2 is at least 0
        GentleLetters y = Kit.told("desk states 2 really 1 days 3 heal 60 leak 0; grades 0 99;"
                + "hearer thinks 1 1; word shame 5 of 1; word shame 6 of 0;");
        Kit.fill(y, 0, 0, 0, 1, 0);
        Kit.due("18: 4950 and 9900 squared", y.hurts(0, 0), 245025 + 980100);
        Kit.due("20: healed, and not at all", y.left(0, 0), 980100);
        Kit.fill(y, 0, 0, 8, 0);
        Kit.due("20: 40 of a hundred, cut", y.left(0, 0), 98010);
    }

    private static void orders() {
        GentleLetters x = Kit.told(Kit.SAMPLE);
        // 1 first costs 252000 and then 0 nothing; 0 ahead of 1: 63000 and 72000
        Kit.fill(x, 0, 0, 1, 0);
        Kit.due("24: 1 0 turned", x.softer(0, 0), 135000);
        Kit.due("25: first is day 1", x.ordered(0, 0, 0), 1);
        Kit.due("25: then day 0", x.ordered(0, 0, 1), 0);
        Kit.due("25: day 2", x.ordered(0, 0, 2), -1);
        Kit.due("25: day -1", x.ordered(0, 0, -1), -1);
        // for her who knows all orders are alike, the least row stays
        Kit.due("24: hearer 1", x.softer(0, 1), 0);
        Kit.due("25: hearer 1", x.ordered(0, 1, 0), 0);
        // like words: of two days with one word the earlier comes first
        Kit.fill(x, 0, 0, 1, 0, 1, 0);
        Kit.due("24: twice each", x.softer(0, 0), 135000);
        Kit.due("25: twice each, day 0", x.ordered(0, 0, 0), 1);
        Kit.due("25: twice each, day 1", x.ordered(0, 0, 1), 0);
        Kit.due("25: twice each, day 2", x.ordered(0, 0, 2), 2);
        Kit.due("25: twice each, day 3", x.ordered(0, 0, 3), 3);
        GentleLetters y = Kit.told("desk states 2 really 1 days 8 heal 0 leak 0; hearer thinks 1 1; word shame 0 of 1;");
        Kit.fill(y, 0, 0, 0, 0, 0, 0, 0, 0);
        Kit.due("24: six days", y.softer(0, 0), 0);
        Kit.due("25: six days, the last", y.ordered(0, 0, 5), 5);
        Kit.fill(y, 0, 0, 0, 0, 0, 0, 0, 0, 0);
        Kit.due("24: seven days", y.softer(0, 0), -2);
        Kit.due("25: seven days", y.ordered(0, 0, 9), -2);
        Kit.due("20: seven days are well for left", y.left(0, 0), 0);
    }

    private static void hopes() {
        GentleLetters x = Kit.told(Kit.SAMPLE);
        Kit.fill(x, 0, 0, 0);
        Kit.due("35: behind 0 above", x.hope(0, 0, 2, 0), 1);
        Kit.due("35: behind 0 below", x.hope(0, 0, 2, 1), 2);
        Kit.due("35: no more above", x.hope(0, 0, 0, 0), 0);
        Kit.due("35: no more below", x.hope(0, 0, 0, 1), 1);
        Kit.due("35: nothing", x.hope(1, 0, 0, 0), -6);
        Kit.due("35: nothing, no such state", x.hope(1, 0, 3, 0), -2);
        Kit.due("35: state -1", x.hope(0, 0, -1, 0), -2);
        Kit.due("35: what 2", x.hope(0, 0, 0, 2), -2);
        Kit.due("35: hearer 2", x.hope(0, 2, 0, 0), -2);
        Kit.due("35: slot 4", x.hope(4, 0, 0, 0), -2);
    }
}
