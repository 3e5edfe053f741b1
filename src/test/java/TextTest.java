/** Term I: the text of a desk, its tokens and its faults; each sentence by a test of its own. */
public final class TextTest extends Kit {
    private static final String HEAD = head(2, 1, 3, 5, 7);
    private static final String HEARER = "hearer thinks 1 1;";
    private static final String WORD = "word shame 0 of 0;";

    public static void main(String[] args) {
        linesAndTheirWords();
        firstLine();
        boundsOfTheHead();
        states();
        grades();
        thoughts();
        wordsAndPlans();
        newsAndTells();
        numbersAsTheyStand();
        tokens();
        placesOfFaults();
        faultsOfOne();
        faultsOfTwo();
        faultsOfThree();
        finish();
    }

    /** At each token of a line the text may not end, nor may a word or a sign stand there that none asks for. */
    private static void everyTokenCounts(String before, String line) {
        String[] tokens = line.split(" ");
        String left = before;
        faulty(1, before + "^;");
        for (String token : tokens) {
            faulty(1, left + "^");
            if (token.length() > 1) {
                faulty(1, left + "^x" + token.substring(1) + " 1 1;");
                faulty(1, left + "^" + token.substring(0, token.length() - 1) + "x 1 1;");
                faulty(1, left + "^" + token.substring(1) + " 1 1;");
            }
            faulty(1, left + "^x " + token);
            faulty(1, left + "^: " + token);
            left += token + " ";
        }
    }

    private static void linesAndTheirWords() {
        term("I", "DESK: {LINE ;}.");
        stands("", 0);
        stands(" \n\n ", 0);
        stands(HEAD, 1);
        stands(HEAD + HEARER + WORD, 3);
        faulty(1, HEAD.replace(";", "^"));
        faulty(1, HEAD.replace(";", "^grades 0 0;"));
        faulty(1, "^;");
        faulty(1, HEAD + "^;");
        faulty(1, HEAD + HEARER + " ^;" + WORD);
        term("I", "LINE: desk states N really S days N heal N leak N");
        everyTokenCounts("desk ", "states 2 really 1 days 3 heal 5 leak 7 ;");
        faulty(1, "desk states 2 really 1 days 3 heal 5 leak 7 ^8;");
        faulty(1, "desk ^really 1 states 2 days 3 heal 5 leak 7;");
        faulty(1, "desk states ^really 1");
        term("I", "| grades N {N}");
        stands(HEAD + "grades 1 2;", 2);
        everyTokenCounts(HEAD + "grades ", "1 2 ;");
        term("I", "| hearer thinks N {N} [reckons N]");
        stands(HEAD + "hearer thinks 1 2;", 2);
        stands(HEAD + "hearer thinks 1 2 reckons 3;", 2);
        everyTokenCounts(HEAD + "hearer ", "thinks 1 2 reckons 3 ;");
        faulty(1, HEAD + "hearer ^1 2;");
        faulty(1, HEAD + "hearer thinks 1 2 reckons ^;");
        faulty(1, HEAD + "hearer thinks 1 2 reckons 3 ^4;");
        faulty(1, HEAD + "hearer thinks 1 2 reckons 3 ^reckons 3;");
        term("I", "| word shame N of S {S}");
        stands(HEAD + "word shame 1 of 0;", 2);
        stands(HEAD + "word shame 1 of 0 1;", 2);
        everyTokenCounts(HEAD + "word ", "shame 1 of 0 1 ;");
        faulty(1, HEAD + "word ^of 0;");
        faulty(1, HEAD + "word shame 1 of ^;");
        faulty(1, HEAD + "word shame 1 of 0 ^of 1;");
        term("I", "| plan W {W}");
        stands(HEAD + WORD + "plan 0;", 3);
        stands(HEAD + WORD + "plan 0 0;", 3);
        everyTokenCounts(HEAD + WORD + "plan ", "0 0 ;");
        faulty(1, HEAD + WORD + "plan ^;");
        term("I", "| news good N | news bad N");
        stands(HEAD + "news good 1;news bad 1;", 3);
        everyTokenCounts(HEAD + "news ", "good 1 ;");
        everyTokenCounts(HEAD + "news ", "bad 1 ;");
        faulty(1, HEAD + "news ^5;");
        faulty(1, HEAD + "news ^worse 5;");
        faulty(1, HEAD + "news bad ^good 1;");
        faulty(1, HEAD + "news good 1 ^1;");
        term("I", "| tells H H.");
        stands(HEAD + HEARER + HEARER + "tells 0 1;", 4);
        stands(HEAD + HEARER + HEARER + "tells 0 1;tells 0 1;", 5);
        everyTokenCounts(HEAD + HEARER + HEARER + "tells ", "0 1 ;");
        faulty(1, HEAD + HEARER + HEARER + "tells 0 ^;");
        faulty(1, HEAD + HEARER + HEARER + "tells 0 1 ^0;");
    }

    private static void firstLine() {
        term("I", "desk is the first LINE and no other");
        faulty(1, "^xesk states 2 really 0 days 1 heal 0 leak 0;");
        faulty(1, "^desx states 2 really 0 days 1 heal 0 leak 0;");
        String[] others = {"grades 0 0;", HEARER, WORD, "plan 0;", "news bad 1;", "tells 0 1;"};
        for (String other : others) {
            faulty(1, "^" + other + HEAD);
        }
        faulty(1, HEAD + "^" + HEAD);
        faulty(1, HEAD + HEARER + "\n^" + HEAD);
        GentleLetters x = told(HEAD);
        type(x, HEARER);
        due("a desk that stands is no first line of the next text", x.desk(), -4);
    }

    private static void boundsOfTheHead() {
        term("I", "states 2 .. 8");
        bounds("desk states ", 2, 8, " really 1 days 3 heal 5 leak 7;", 1);
        faulty(2, "desk states ^0 really 0");
        GentleLetters x = told(head(8, 7, 1, 0, 0));
        due("grade(7)", x.grade(7), 0);
        due("grade(8)", x.grade(8), -2);
        term("I", "days 1 .. 10");
        bounds("desk states 2 really 1 days ", 1, 10, " heal 5 leak 7;", 1);
        term("I", "heal, leak 0 .. 100");
        bounds("desk states 2 really 1 days 3 heal ", 0, 100, " leak 7;", 1);
        bounds("desk states 2 really 1 days 3 heal 5 leak ", 0, 100, ";", 1);
    }

    private static void states() {
        term("I", "S a STATE 0 .. states less 1");
        bounds("desk states 2 really ", 0, 1, " days 1 heal 0 leak 0;", 1);
        bounds("desk states 8 really ", 0, 7, " days 1 heal 0 leak 0;", 1);
        bounds(HEAD + "word shame 0 of ", 0, 1, ";", 2);
        bounds(HEAD + "word shame 0 of 1 0 ", 0, 1, " 0;", 2);
        bounds(head(8, 0, 1, 0, 0) + "word shame 0 of ", 0, 7, ";", 2);
        term("I", "(of a word: like ones count once)");
        GentleLetters x = told(HEAD + "word shame 3 of 1 1;word shame 4 of 1 0 1 1 0;word shame 5 of 0 0 0 0 0 0 0 0 0;");
        due("1 1", x.word(0, 1), 2);
        due("1 0 1 1 0", x.word(1, 1), 3);
        due("nine times 0", x.word(2, 1), 1);
    }

    private static void grades() {
        term("I", "grades: as many as STATES");
        faulty(1, HEAD + "grades ^;");
        faulty(1, HEAD + "grades 1 ^;");
        faulty(1, HEAD + "grades 1 2 ^3;");
        stands(head(8, 0, 1, 0, 0) + "grades 1 2 3 4 5 6 7 8;", 2);
        faulty(1, head(8, 0, 1, 0, 0) + "grades 1 2 3 4 5 6 7 ^;");
        faulty(1, head(8, 0, 1, 0, 0) + "grades 1 2 3 4 5 6 7 8 ^9;");
        term("I", ", 0 .. 99");
        bounds(HEAD + "grades ", 0, 99, " 5;", 2);
        bounds(HEAD + "grades 5 ", 0, 99, ";", 2);
        term("I", "(a later one strikes; all 0 without)");
        GentleLetters x = told(HEAD + "grades 1 2;" + HEARER + "grades 3 4;");
        due("lines", x.count(9), 4);
        due("grade(0)", x.grade(0), 3);
        due("grade(1)", x.grade(1), 4);
        GentleLetters y = told(HEAD);
        due("grade(0) without", y.grade(0), 0);
        due("grade(1) without", y.grade(1), 0);
        type(x, HEAD);
        due("a desk without in place of one with", x.desk(), 1);
        due("its grade(0)", x.grade(0), 0);
        due("its grade(1)", x.grade(1), 0);
    }

    private static void thoughts() {
        term("I", "thinks: as many as STATES, 0 .. 20");
        faulty(1, HEAD + "hearer thinks ^;");
        faulty(1, HEAD + "hearer thinks 1 ^;");
        faulty(1, HEAD + "hearer thinks 1 ^reckons 2;");
        faulty(1, HEAD + "hearer thinks 1 2 ^3;");
        bounds(HEAD + "hearer thinks ", 0, 20, " 1;", 2);
        bounds(HEAD + "hearer thinks 1 ", 0, 20, ";", 2);
        stands(head(8, 0, 1, 0, 0) + "hearer thinks 1 2 3 4 5 6 7 8;", 2);
        faulty(1, head(8, 0, 1, 0, 0) + "hearer thinks 1 2 3 4 5 6 7 8 ^9;");
        term("I", "the last one above 0, if all others are 0");
        bounds(HEAD + "hearer thinks 0 ", 1, 20, ";", 2);
        faulty(2, HEAD + "hearer thinks 00 ^000;");
        stands(HEAD + "hearer thinks 1 0;", 2);
        faulty(2, head(4, 0, 1, 0, 0) + "hearer thinks 0 0 0 ^0;");
        stands(head(4, 0, 1, 0, 0) + "hearer thinks 0 0 0 1;", 2);
        stands(head(4, 0, 1, 0, 0) + "hearer thinks 0 0 1 0;", 2);
        stands(head(4, 0, 1, 0, 0) + "hearer thinks 1 0 0 0;", 2);
        faulty(2, HEAD + HEARER + "hearer thinks 0 ^0;");
        term("I", "reckons 1 .. 5");
        bounds(HEAD + "hearer thinks 1 1 reckons ", 1, 5, ";", 2);
    }

    private static void wordsAndPlans() {
        term("I", "shame 0 .. 999");
        bounds(HEAD + "word shame ", 0, 999, " of 0;", 2);
        term("I", "plan: one to five WORDS told ahead");
        faulty(1, HEAD + WORD + "plan ^;");
        stands(HEAD + WORD + "plan 0;", 3);
        stands(HEAD + WORD + "plan 0 0 0 0 0;", 3);
        faulty(3, HEAD + WORD + "plan 0 0 0 0 0 ^0;");
        faulty(2, HEAD + "plan ^0;" + WORD);
        bounds(HEAD + WORD + WORD + "plan ", 0, 1, ";" + WORD, 5);
        bounds(HEAD + WORD + WORD + "plan 1 0 ", 0, 1, ";" + WORD, 5);
        bounds(HEAD + WORD.repeat(8) + "plan ", 0, 7, ";", 10);
    }

    private static void newsAndTells() {
        term("I", "news 1 .. 99");
        bounds(HEAD + "news good ", 1, 99, ";", 2);
        bounds(HEAD + "news bad ", 1, 99, ";", 2);
        term("I", "tells: unlike HEARERS told ahead");
        faulty(2, HEAD + "tells ^0 1;" + HEARER + HEARER);
        faulty(2, HEAD + HEARER + "tells ^1 0;" + HEARER);
        faulty(2, HEAD + HEARER + "tells 0 ^1;" + HEARER);
        faulty(2, HEAD + HEARER + "tells 0 ^0;");
        faulty(2, HEAD + HEARER + HEARER + "tells 1 ^1;");
        faulty(2, HEAD + HEARER + HEARER + "tells 1 ^01;");
        bounds(HEAD + HEARER.repeat(4) + "tells ", 0, 3, " 1;", 6);
        bounds(HEAD + HEARER.repeat(4) + "tells 1 ", 2, 3, ";", 6);
        stands(HEAD + HEARER.repeat(4) + "tells 1 0;", 6);
    }

    private static void numbersAsTheyStand() {
        term("I", "HEARERS 0 .. 3, WORDS 0 .. 7, PLANS 0 .. 3, NEWS 0 .. 5 are numbered as they stand.");
        StringBuilder text = new StringBuilder(HEAD);
        for (int i = 0; i < 8; i++) {
            text.append("word shame ").append(10 + i).append(" of 0;");
            text.append(i < 4 ? "hearer thinks 1 " + (5 + i) + ";" : "");
            text.append(i < 6 ? "news good " + (20 + i) + ";" : "");
            text.append(i < 4 ? "plan " + i + ";" : "");
        }
        GentleLetters x = told(text.toString());
        due("lines", x.count(9), 1 + 8 + 4 + 6 + 4);
        for (int i = 0; i < 8; i++) {
            due("word " + i, x.word(i, 0), 10 + i);
            due("hearer " + i, x.thinks(i, 1), i < 4 ? 5 + i : -2);
            due("news " + i, x.news(i), i < 6 ? 20 + i : -1000);
            due("plan " + i, x.plan(i, 0), i < 4 ? i : -2);
        }
        due("word 8", x.word(8, 0), -2);
    }

    private static void tokens() {
        term("I", "TOKENS, blanks (32, 10) aside");
        stands(" \n desk\nstates\n\n2 really  1 days 3 heal 5 leak 7\n; \n", 1);
        stands(HEAD + "\n ", 1);
        int[] noBlanks = {0, 8, 9, 11, 12, 13, 31, 33, 127, 160, 133, 255};
        for (int sign : noBlanks) {
            faulty(1, "desk^" + (char) sign + "states 2 really 1 days 3 heal 5 leak 7;");
        }
        term("I", ", the longest:");
        stands("desk\nstates 2really 1days 3heal 5leak 7;grades 3 4;hearer\nthinks 1 2reckons 3;", 3);
        faulty(1, "^deskstates 2");
        faulty(1, "^desks states 2");
        faulty(1, "^des k states 2");
        faulty(1, HEAD + "^gradess 1 2;");
        faulty(1, HEAD + "^grade 1 2;");
        faulty(2, "desk states ^22 really 0");
        faulty(1, HEAD + "grades 12^;");
        term("I", "words (a .. z), numbers (digits), the sign ; .");
        faulty(1, "^deska states 2");
        faulty(1, "^deskz states 2");
        faulty(1, "desk^` states 2");
        faulty(1, "desk^{ states 2");
        faulty(1, "desk^A states 2");
        faulty(1, "^Desk states 2");
        faulty(1, "^DESK states 2");
        faulty(2, "desk states ^20 really 0");
        faulty(2, "desk states ^29 really 0");
        faulty(1, "desk states 2^/ really 0");
        faulty(1, "desk states 2^: really 0");
        faulty(1, "desk states 2^. really 0");
        faulty(1, "desk states ^-2 really 0");
        faulty(1, "desk states ^+2 really 0");
        faulty(1, HEAD.replace(";", "^:"));
        faulty(1, HEAD.replace(";", "^,"));
        faulty(1, HEAD.replace(";", "^<"));
        stands("desk states 002 really 00000000000000000000000000001 days 010 heal 000 leak 0100;", 1);
    }

    private static void placesOfFaults() {
        term("I", "FAULTS, the first by its place");
        faulty(2, "desk states ^9 really 99 oops :");
        faulty(1, HEAD + "grades 1 ^oops 100;");
        faulty(2, HEAD + "grades 1 ^100 oops;");
        faulty(3, HEAD + HEARER.repeat(4) + "^hearer oops");
        faulty(2, HEAD + HEARER.repeat(3) + "hearer thinks 1 ^21;" + HEARER);
        term("I", "(a TOKEN's first byte; the end's)");
        faulty(2, "desk states   \n^12345 really");
        faulty(1, "desk \n\n^statesandmore 2");
        faulty(1, "desk^");
        faulty(1, "desk \n ^");
        faulty(1, "desk states 2 really^");
        faulty(1, HEAD + "word shame 0 of 0 \n^");
        term("I", "of one place the least");
        faulty(2, HEAD + WORD + "plan 0 0 0 0 0 ^1;");
        faulty(1, HEAD + "grades 1 2 ^100;");
        faulty(1, HEAD + "hearer thinks 1 2 ^21;");
    }

    private static void faultsOfOne() {
        term("I", "1 a TOKEN that is none");
        for (int sign = 0; sign < 256; sign++) {
            boolean token = sign >= 'a' && sign <= 'z' || sign >= '0' && sign <= '9' || sign == ';';
            if (!token && sign != ' ' && sign != '\n' && sign != '^') {
                faulty(1, HEAD + "grades 1 2^" + (char) sign + ";");
            }
        }
        GentleLetters x = new GentleLetters();
        type(x, "^");
        due("desk() of the sign 94", x.desk(), -4);
        due("fault(0) of it", x.fault(0), 1);
        due("fault(1) of it", x.fault(1), 0);
        term("I", ", or can't stand there");
        faulty(1, HEAD + "^x;");
        faulty(1, HEAD + "^7;");
        faulty(1, HEAD + "^states 2;");
        String[] words = {"grades 1 2", "hearer thinks 1 1", "word shame 0 of 0", "plan 0", "news bad 1", "tells 0 1"};
        for (String word : words) {
            faulty(1, HEAD + HEARER + HEARER + WORD + "^x" + word.substring(1) + ";");
            faulty(1, HEAD + HEARER + HEARER + WORD + "^" + word.replaceFirst("\\w ", "x ") + ";");
        }
        faulty(1, HEAD + "^tell 0 1;");
        faulty(1, HEAD + WORD + "plan 0 0 0 0 0 ^x;");
        term("I", "(desk behind the first LINE, another word ahead of it");
        faulty(1, HEAD + "^desk");
        faulty(1, "^hearer thinks 1 1;");
        faulty(1, "^x");
        faulty(1, "^2");
        term("I", "one that is too many or lacks of grades, thinks)");
        faulty(1, HEAD + "grades 1 2 ^3;");
        faulty(1, HEAD + "grades 1 ^hearer thinks 1 1;");
        faulty(1, HEAD + "grades 1^");
        faulty(1, HEAD + "hearer thinks 1 2 ^3;");
        faulty(1, HEAD + "hearer thinks 1 ^reckons 1;");
        faulty(1, HEAD + "hearer thinks 1^");
    }

    private static void faultsOfTwo() {
        term("I", "2 a number out of its bounds");
        faulty(2, "desk states ^1 oops");
        // 2 modulo 2 to the 32, modulo 2 to the 64, and far more digits than any number has
        faulty(2, "desk states ^4294967298 oops");
        faulty(2, "desk states ^18446744073709551618 oops");
        faulty(2, "desk states ^" + "9".repeat(300) + " oops");
        faulty(2, HEAD + "word shame ^4294967296 of 0;");
        term("I", ", not as said.");
        faulty(2, HEAD + HEARER + HEARER + "tells 0 ^0;");
        faulty(2, HEAD + HEARER + "tells 0 ^1;");
        faulty(2, HEAD + "plan ^0;");
        faulty(2, HEAD + "hearer thinks 0 ^0;");
    }

    private static void faultsOfThree() {
        term("I", "3 a 5th hearer, 9th word, 5th plan, 7th news, at its word");
        stands(HEAD + HEARER.repeat(4), 5);
        faulty(3, HEAD + HEARER.repeat(4) + " ^" + HEARER);
        stands(HEAD + WORD.repeat(8), 9);
        faulty(3, HEAD + WORD.repeat(8) + " ^" + WORD);
        stands(HEAD + WORD + "plan 0;".repeat(4), 6);
        faulty(3, HEAD + WORD + "plan 0;".repeat(4) + "\n^plan 0;");
        stands(HEAD + "news bad 1;news good 1;".repeat(3), 7);
        faulty(3, HEAD + "news bad 1;news good 1;".repeat(3) + "^news good 1;");
        faulty(3, HEAD + "news bad 1;news good 1;".repeat(3) + "^news");
        stands(HEAD + "grades 1 2;".repeat(20), 21);
        term("I", "a sixth WORD of a plan, at it.");
        stands(HEAD + WORD + "plan 0 0 0 0 0;", 3);
        faulty(3, HEAD + WORD + "plan 0 0 0 0 0 ^0;");
        faulty(3, HEAD + WORD + "plan 0 0 0 0 0 ^0 0 0 x;");
        faulty(1, HEAD + WORD + "plan 0 0 0 0 0 ^x");
    }
}
