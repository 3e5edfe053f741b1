/** Term VI, of term VII, and promises 53 to 60: news in letters, whom to tell, letters read back. */
public final class NewsTest extends Kit {
    private static final String FOUR = "hearer thinks 1 1;".repeat(4);
    private static final String CHAIN = "tells 3 2;tells 2 1;tells 1 0;";

    public static void main(String[] args) {
        letters();
        joined();
        letter();
        all();
        telling();
        heard();
        whomAndFirst();
        read();
        guess();
        finish();
    }

    private static GentleLetters news(int days, int heal, String text) {
        return told(head(2, 0, days, heal, 0) + text);
    }

    private static void letters() {
        term("VI", "NEWS in letters, one a day from day 0 on (some may have none)");
        due("one letter alone has news", news(3, 0, "news good 9;news bad 5;news bad 3;").joined(3), 0);
        due("letters on days 0 and 1", news(10, 10, "news bad 10;news bad 10;").joined(2), 10 + 20);
        due("the first may have none", news(3, 0, "news bad 1;").letter(3, 0), 0);
        term("VI", "HURT of a letter: by how much its bad NEWS are more than its good ones, squared");
        due("10 and 3 less 4", news(1, 0, "news bad 10;news good 4;news bad 3;").joined(1), 81);
        due("as many good ones", news(1, 0, "news bad 4;news good 4;").joined(1), 0);
        due("more good ones", news(1, 0, "news bad 4;news good 99;").joined(1), 0);
        due("594 squared", news(1, 0, "news bad 99;".repeat(6)).joined(1), 352836);
        term("VI", "LEFT as of HURTS (III).");
        due("70 of 81, cut", told(SAMPLE).joined(1), 56);
        due("healed", news(3, 50, "news bad 99;").joined(1), 0);
        due("at least 0", news(10, 100, "news bad 99;").joined(1), 0);
        term("VI", "The first: the least row of days by NEWS.");
        GentleLetters x = news(2, 0, "news bad 5;news bad 5;");
        due("5 and 5 apart: 50", x.joined(2), 50);
        due("0 1 is less than 1 0, first", x.letter(2, 0), 0);
        due("0 1 is less than 1 0, second", x.letter(2, 1), 1);
        GentleLetters good = news(2, 0, "news good 5;news good 5;");
        due("nothing hurts: 0 0, first", good.letter(2, 0), 0);
        due("nothing hurts: 0 0, second", good.letter(2, 1), 0);
    }

    private static void joined() {
        says(53, "NEWS (VI) in at most n (1 .. 4) letters");
        GentleLetters x = told(SAMPLE);
        due("one: 70 of 81", x.joined(1), 56);
        // 10 less 4 on day 0: 70 of 36 is 25, and 80 of 9 is 7
        due("two", x.joined(2), 32);
        due("three, one without any", x.joined(3), 32);
        due("four", x.joined(4), 32);
        GentleLetters four = news(10, 0, "news bad 2;".repeat(4));
        due("four of 2 in one", four.joined(1), 64);
        due("four of 2 in two", four.joined(2), 32);
        due("four of 2 in three", four.joined(3), 24);
        due("four of 2 in four", four.joined(4), 16);
        due("no news", news(2, 50, "").joined(2), 0);
        says(53, "(as many as days, if n is more)");
        GentleLetters two = news(2, 0, "news bad 2;".repeat(4));
        due("four letters on two days", two.joined(4), 32);
        due("three letters on two days", two.joined(3), 32);
        due("four letters on one day", news(1, 0, "news bad 2;".repeat(4)).joined(4), 64);
        says(53, ": the least that is LEFT.");
        // 19 less 9 on day 0: 50; 14 less 9, and 5: 12 and 25; 10 less 9, and 9: 0 and 81
        due("half healed on day 0", news(2, 50, "news good 9;news bad 5;news bad 5;news bad 9;").joined(2), 37);
        due("six news in four", news(4, 0, "news bad 99;".repeat(6)).joined(4), 2 * 9801 + 2 * 39204);
        says(53, "-2: there is no such n, no DESK.");
        due("n 0", x.joined(0), -2);
        due("n 5", x.joined(5), -2);
        due("n -1", x.joined(-1), -2);
        due("n MAX", x.joined(Integer.MAX_VALUE), -2);
        due("n MIN", x.joined(Integer.MIN_VALUE), -2);
        due("no desk", new GentleLetters().joined(1), -2);
    }

    private static void letter() {
        says(54, "The day of a NEWS by the first such row.");
        GentleLetters x = told(SAMPLE);
        due("10 bad", x.letter(2, 0), 0);
        due("4 good", x.letter(2, 1), 0);
        due("3 bad", x.letter(2, 2), 1);
        due("one letter", x.letter(1, 2), 0);
        int[] days = {0, 0, 1, 0};
        GentleLetters y = news(2, 50, "news good 9;news bad 5;news bad 5;news bad 9;");
        for (int i = 0; i < 4; i++) {
            due("half healed on day 0, news " + i, y.letter(2, i), days[i]);
        }
        GentleLetters six = news(4, 0, "news bad 99;".repeat(6));
        int[] rows = {0, 0, 1, 1, 2, 3};
        for (int i = 0; i < 6; i++) {
            due("six in four, news " + i, six.letter(4, i), rows[i]);
        }
        GentleLetters turned = news(4, 10, "news bad 3;news bad 10;");
        due("the worse one first: 70 and 7", turned.joined(2), 77);
        due("the lesser one, told first, goes later", turned.letter(2, 0), 1);
        due("the worse one", turned.letter(2, 1), 0);
        due("as many as days", news(1, 0, "news bad 9;news bad 9;").letter(4, 1), 0);
        says(54, "-2 likewise, no such NEWS.");
        due("n 0", x.letter(0, 0), -2);
        due("n 5", x.letter(5, 0), -2);
        due("n -1", x.letter(-1, 0), -2);
        due("news 3", x.letter(2, 3), -2);
        due("news -1", x.letter(2, -1), -2);
        due("news 6 of six", six.letter(2, 6), -2);
        due("no news", news(2, 50, "").letter(2, 0), -2);
        due("no desk", new GentleLetters().letter(1, 0), -2);
    }

    private static void all() {
        says(55, "All NEWS in one letter on day 0: what is LEFT.");
        due("70 of 81", told(SAMPLE).all(), 56);
        due("none", news(2, 50, "").all(), 0);
        due("good ones are more", news(1, 0, "news bad 4;news good 5;").all(), 0);
        due("the most", news(1, 0, "news bad 99;".repeat(6)).all(), 352836);
        due("though two letters would leave less", news(2, 0, "news bad 5;news bad 5;").all(), 100);
        says(55, "-2: there is no DESK.");
        due("all()", new GentleLetters().all(), -2);
    }

    private static void telling() {
        term("VII", "Who knows on a day tells on the next day whom she tells.");
        GentleLetters x = told(head(2, 0, 3, 0, 0) + FOUR + CHAIN);
        int[] knowing = {8, 12, 14, 15, 15};
        for (int day = 0; day < knowing.length; day++) {
            due("day " + day, x.heard(8, day), knowing[day]);
        }
        GentleLetters up = told(head(2, 0, 3, 0, 0) + FOUR + "tells 0 1;tells 1 2;tells 2 3;");
        int[] upwards = {1, 3, 7, 15, 15};
        for (int day = 0; day < upwards.length; day++) {
            due("upwards, day " + day, up.heard(1, day), upwards[day]);
        }
        term("VII", "FRACTIONS are told in lowest terms (0 / 1).");
        GentleLetters y = told(head(3, 0, 1, 0, 0) + "hearer thinks 20 12 0;");
        due("20 of 32, above", y.chance(0, 7, 0, 0), 5);
        due("20 of 32, below", y.chance(0, 7, 0, 1), 8);
        due("12 of 32, above", y.chance(0, 7, 1, 0), 3);
        due("12 of 32, below", y.chance(0, 7, 1, 1), 8);
        due("0 of 32, above", y.chance(0, 7, 2, 0), 0);
        due("0 of 32, below", y.chance(0, 7, 2, 1), 1);
        due("20 of 20, above", y.chance(0, 5, 0, 0), 1);
        due("20 of 20, below", y.chance(0, 5, 0, 1), 1);
    }

    private static void heard() {
        says(56, "HEARERS that know on a day (0 and above), if a set (bits) was told on day 0, as bits.");
        GentleLetters x = told(head(2, 0, 3, 0, 0) + FOUR + CHAIN);
        due("day 0", x.heard(8, 0), 8);
        due("day 2", x.heard(8, 2), 14);
        due("behind the last day", x.heard(8, 3), 15);
        due("a far day", x.heard(9, Integer.MAX_VALUE), 15);
        due("a set of two", x.heard(10, 1), 15);
        due("all", x.heard(15, 0), 15);
        due("nobody", x.heard(0, 5), 0);
        due("who tells nobody", x.heard(1, 9), 1);
        due("no hearers, nobody", told(head(2, 0, 1, 0, 0)).heard(0, 0), 0);
        says(56, "-2: there are none such, no DESK.");
        due("set 16 of four", x.heard(16, 0), -2);
        due("set 24 of four", x.heard(24, 0), -2);
        due("set -1", x.heard(-1, 0), -2);
        due("set MIN", x.heard(Integer.MIN_VALUE, 0), -2);
        due("day -1", x.heard(1, -1), -2);
        due("day MIN", x.heard(1, Integer.MIN_VALUE), -2);
        due("set 4 of two", told(SAMPLE).heard(4, 0), -2);
        due("no hearers", told(head(2, 0, 1, 0, 0)).heard(1, 0), -2);
        due("no desk", new GentleLetters().heard(0, 0), -2);
    }

    private static void whomAndFirst() {
        GentleLetters one = told(head(2, 0, 4, 0, 0) + FOUR + CHAIN);
        GentleLetters two = told(head(2, 0, 3, 0, 0) + FOUR + CHAIN);
        GentleLetters all = told(head(2, 0, 1, 0, 0) + FOUR + CHAIN);
        GentleLetters pairs = told(head(2, 0, 2, 0, 0) + FOUR + "tells 0 1;tells 1 0;tells 2 3;tells 3 2;");
        GentleLetters ring = told(head(2, 0, 4, 0, 0) + FOUR + "tells 0 1;tells 1 2;tells 2 3;tells 3 0;");
        GentleLetters nobody = told(head(2, 0, 1, 0, 0));
        says(57, "The fewest HEARERS told on day 0 by whom all know on the last day.");
        due("four days: the first of the chain", one.whom(), 1);
        due("three days are too few for one", two.whom(), 2);
        due("one day: all", all.whom(), 4);
        due("two pairs", pairs.whom(), 2);
        due("a ring", ring.whom(), 1);
        due("the sample", told(SAMPLE).whom(), 1);
        due("nobody tells", told(head(2, 0, 9, 0, 0) + FOUR).whom(), 4);
        due("no hearers", nobody.whom(), 0);
        says(57, "-2: there is no DESK.");
        due("whom()", new GentleLetters().whom(), -2);
        says(58, "Which, as bits: the least set of so few.");
        due("four days", one.first(), 8);
        due("three days: 0 and 3, less than 1 and 3, 2 and 3", two.first(), 9);
        due("one day", all.first(), 15);
        due("two pairs: 0 and 2", pairs.first(), 5);
        due("a ring: 0", ring.first(), 1);
        due("no hearers", nobody.first(), 0);
        GentleLetters late = told(head(2, 0, 2, 0, 0) + FOUR + "tells 3 0;tells 3 1;tells 3 2;");
        due("one above, though less as a set are two", late.first(), 8);
        says(58, "-2 likewise.");
        due("first()", new GentleLetters().first(), -2);
    }

    private static void read() {
        says(59, "READ: STATES that may have been, if all WORDS of a SLOT's row are true, as bits.");
        due("8 0 8", week(8, 0, 8).read(0), 6);
        due("0 1", week(0, 1).read(0), 4);
        due("0 2 can't both be true", week(0, 2).read(0), 0);
        due("1 2 1 can't, though 1 is believed", week(1, 2, 1).read(0), 0);
        due("silence", week(8).read(0), 7);
        due("none", week().read(0), 7);
        says(59, "-2, -6 as believes().");
        refusesRows((x, slot) -> x.read(slot));
    }

    private static void guess() {
        says(60, "The mean grade of these, 100 times, cut, as a HEARER thinks of them");
        due("0", week(0).guess(0, 0), 6000);
        due("0, hearer 1", week(0).guess(0, 1), 9000);
        due("silence", week(8).guess(0, 0), 3000);
        due("2, of which she thinks nothing", week(2).guess(0, 1), 0);
        GentleLetters cut = told(head(3, 0, 1, 0, 0) + "grades 0 0 2;hearer thinks 1 1 1;");
        fill(cut, 0, 0, 8);
        due("66 and some", cut.guess(0, 0), 66);
        says(60, "NONE: there are none");
        due("0 2", week(0, 2).guess(0, 0), -1);
        due("1 2 1", week(1, 2, 1).guess(0, 1), -1);
        says(60, "-2, -6 likewise, no such HEARER.");
        refusesRows((x, slot) -> x.guess(slot, 0));
        refusesHearers((x, hearer) -> x.guess(0, hearer));
        due("none, no such hearer", week(0, 2).guess(0, 2), -2);
        due("no such hearer, nothing", week(0).guess(1, 2), -2);
    }
}
