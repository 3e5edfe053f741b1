/** Promises 61 to 72: changes taken back, weeks drawn, counts, images, slots. */
public final class ChangesTest {
    public static void main(String[] args) {
        changes();
        sixtyChanges();
        weeksDrawn();
        counts();
        images();
        rows();
        pastes();
        Kit.finish();
    }

    private static void changes() {
        GentleLetters x = Kit.told(Kit.SAMPLE);
        Kit.due("64: none yet", x.undo(), -5);
        Kit.due("61: worsen(1, 60)", x.worsen(1, 60), 30);
        Kit.due("61: grade", x.grade(1), 60);
        Kit.due("61: mean", x.mean(0, 6), 7500);
        Kit.due("61: state 3", x.worsen(3, 0), -2);
        Kit.due("61: grade 100", x.worsen(1, 100), -2);
        Kit.due("61: grade -1", x.worsen(1, -1), -2);
        Kit.due("62: really(1)", x.really(1), 2);
        Kit.due("62: count(1)", x.count(1), 1);
        Kit.due("62: word 1 is no longer true", x.word(1, 2), 0);
        Kit.due("62: word 0 still is", x.word(0, 2), 1);
        Kit.due("62: least: not by these words", x.least(0), -1);
        Kit.due("62: state 3", x.really(3), -2);
        Kit.due("62: state -1", x.really(-1), -2);
        Kit.due("63: doubt(1, 2, 0)", x.doubt(1, 2, 0), 1);
        Kit.due("63: all alike now", x.mean(1, 7), 5000);
        Kit.due("63: thinks", x.thinks(1, 2), 0);
        Kit.due("63: hearer 2", x.doubt(2, 0, 0), -2);
        Kit.due("63: state 3", x.doubt(1, 3, 0), -2);
        Kit.due("63: 21", x.doubt(1, 0, 21), -2);
        Kit.due("63: -1", x.doubt(1, 0, -1), -2);
        Kit.due("67: changes", x.count(11), 3);
        Kit.due("64: undo", x.undo(), 2);
        Kit.due("64: thinks", x.thinks(1, 2), 1);
        Kit.due("64: undo", x.undo(), 1);
        Kit.due("64: really", x.count(1), 2);
        Kit.due("64: undo", x.undo(), 0);
        Kit.due("64: grade", x.grade(1), 30);
        Kit.due("64: undo", x.undo(), -5);
        Kit.due("64: least as before", x.least(0), 135000);
        GentleLetters empty = new GentleLetters();
        Kit.due("61: no desk", empty.worsen(0, 0), -2);
        Kit.due("62: no desk", empty.really(0), -2);
        Kit.due("63: no desk", empty.doubt(0, 0, 0), -2);
        Kit.due("64: no desk", empty.undo(), -2);
    }

    private static void sixtyChanges() {
        GentleLetters x = Kit.told(Kit.SAMPLE);
        for (int i = 0; i < 60; i++) {
            Kit.due("61: change " + i, x.worsen(0, i % 100), i == 0 ? 0 : i - 1);
        }
        Kit.due("61: a 61st", x.worsen(0, 5), -5);
        Kit.due("62: a 61st", x.really(0), -5);
        Kit.due("63: a 61st", x.doubt(0, 0, 5), -5);
        Kit.due("61: none such all the same", x.worsen(3, 5), -2);
        Kit.due("61: it stays", x.grade(0), 59);
        Kit.due("64: undo", x.undo(), 59);
        Kit.due("64: grade", x.grade(0), 58);
        Kit.due("62: room again", x.really(0), 2);
        for (int i = 59; i >= 0; i--) {
            Kit.due("64: undo to " + i, x.undo(), i);
        }
        Kit.due("64: as told", x.grade(0), 0);
    }

    private static void weeksDrawn() {
        GentleLetters x = Kit.told(Kit.SAMPLE);
        // draws of seed 0: 0 .., 1: 38 58 13, 3: 47 7 .., 8: 34 64 94, 9: 72 55 19; below 20 it leaks
        int[] days = {1, 3, 1, 2, 1, 3, 2, 2, -1, 3, 2, 2};
        Kit.fill(x, 0, 0, 0, 8, 8, 2);
        for (int seed = 0; seed < days.length; seed++) {
            Kit.due("65: seed " + seed, x.drawn(seed, 0, 0, 0), days[seed]);
        }
        Kit.due("65: seed 2,000,000,000", x.drawn(2_000_000_000, 0, 0, 0), 1);
        Kit.due("65: no leak", x.drawn(8, 0, 0, 1), 90000);
        Kit.due("65: a leak for the word of day 3", x.drawn(1, 0, 0, 1), 180000);
        Kit.fill(x, 1, 0, 8);
        Kit.due("65: silence behind a row", x.drawn(3, 1, 0, 1), 360000);
        Kit.fill(x, 1, 0, 2, 8, 1, 2);
        Kit.due("65: behind the leak nothing", x.drawn(3, 1, 0, 1), 810000);
        x.row(1, 0, 0);
        Kit.due("65: a row of none, no leak", x.drawn(8, 1, 0, 1), 0);
        Kit.due("65: a row of none, a leak", x.drawn(0, 1, 0, 1), 360000);
        Kit.due("65: nothing", x.drawn(0, 2, 0, 0), -6);
        Kit.due("65: seed -1", x.drawn(-1, 0, 0, 0), -2);
        Kit.due("65: seed -1, nothing", x.drawn(-1, 2, 0, 0), -2);
        Kit.due("65: seed 2,000,000,001", x.drawn(2_000_000_001, 0, 0, 0), -2);
        Kit.due("65: what 2", x.drawn(0, 0, 0, 2), -2);
        Kit.due("65: hearer 2", x.drawn(0, 0, 2, 0), -2);
        Kit.due("65: slot 4", x.drawn(0, 4, 0, 0), -2);
        Kit.due("66: 12 from seed 0", x.leaks(0, 12), 11);
        Kit.due("66: seed 8 alone", x.leaks(8, 1), 0);
        Kit.due("66: the last seed", x.leaks(2_000_000_000, 1), 1);
        Kit.due("66: n 0", x.leaks(0, 0), -2);
        Kit.due("66: n 21", x.leaks(0, 21), -2);
        Kit.due("66: seed -1", x.leaks(-1, 1), -2);
        Kit.due("66: seed 2,000,000,001", x.leaks(2_000_000_001, 1), -2);
        Kit.due("66: no desk", new GentleLetters().leaks(0, 1), -2);
        GentleLetters y = Kit.told("desk states 2 really 0 days 1 heal 0 leak 100;");
        Kit.due("66: never on day 0", y.leaks(0, 20), 0);
        GentleLetters z = Kit.told("desk states 2 really 0 days 2 heal 0 leak 100;");
        Kit.due("66: always on day 1", z.leaks(0, 20), 20);
        GentleLetters n = Kit.told("desk states 2 really 0 days 10 heal 0 leak 0;");
        Kit.due("66: never by 0, a draw of 0 too", n.leaks(0, 20), 0);
    }

    private static void counts() {
        GentleLetters x = Kit.told(Kit.SAMPLE);
        Kit.type(x, "abc");
        x.row(1, 0, 0);
        x.row(3, 2, 60);
        x.worsen(0, 1);
        int[] due = {3, 2, 4, 10, 20, 2, 3, 2, 3, 13, 3, 1, 2};
        for (int what = 0; what < due.length; what++) {
            Kit.due("67: count(" + what + ")", x.count(what), due[what]);
        }
        Kit.due("67: count(13)", x.count(13), -1);
        Kit.due("67: count(-1)", x.count(-1), -1);
    }

    private static void images() {
        GentleLetters x = new GentleLetters();
        Kit.due("69: nothing", x.back(1), -6);
        Kit.due("68: of no desk", x.image(0), 0);
        Kit.type(x, Kit.SAMPLE);
        x.desk();
        x.worsen(1, 31);
        x.worsen(1, 32);
        Kit.due("68: image(1)", x.image(1), 0);
        x.undo();
        x.really(0);
        x.doubt(0, 0, 9);
        x.doubt(0, 1, 9);
        Kit.type(x, "xy");
        x.row(0, 0, 2);
        Kit.due("69: back(1)", x.back(1), 0);
        Kit.due("69: grade", x.grade(1), 32);
        Kit.due("69: really", x.count(1), 2);
        Kit.due("69: thinks", x.thinks(0, 0), 2);
        Kit.due("69: changes", x.count(11), 2);
        Kit.due("69: the tape stays", x.count(10), 2);
        Kit.due("69: the slots stay", x.count(12), 1);
        Kit.due("69: its changes can be taken back", x.undo(), 1);
        Kit.due("69: grade", x.grade(1), 31);
        x.end(0);
        x.desk();
        Kit.due("69: no desk now", x.count(9), 0);
        Kit.due("69: back(1) again", x.back(1), 0);
        Kit.due("69: lines", x.count(9), 13);
        Kit.due("69: it was not changed since", x.grade(1), 32);
        Kit.due("69: words", x.word(0, 1), 6);
        Kit.due("69: plans", x.plan(0, 1), 1);
        Kit.due("69: news", x.news(0), -10);
        Kit.due("69: tells", x.tells(0), 2);
        Kit.due("69: reckons", x.thinks(1, -1), 1);
        Kit.due("69: back(0)", x.back(0), 0);
        Kit.due("69: to no desk", x.count(0), 0);
        Kit.due("69: nor changes", x.count(11), 0);
        Kit.due("69: back(2)", x.back(2), -6);
        Kit.due("69: back(3)", x.back(3), -2);
        Kit.due("69: back(-1)", x.back(-1), -2);
        Kit.due("68: image(3)", x.image(3), -2);
        Kit.due("68: image(-1)", x.image(-1), -2);
    }

    private static void rows() {
        GentleLetters x = Kit.told(Kit.SAMPLE);
        Kit.due("70: row(4, 0, 0)", x.row(4, 0, 0), -2);
        Kit.due("70: row(-1, 0, 0)", x.row(-1, 0, 0), -2);
        Kit.due("70: row(0, 4, 0)", x.row(0, 4, 0), -2);
        Kit.due("70: row(0, -1, 0)", x.row(0, -1, 0), -2);
        Kit.due("70: row(0, 4, -1)", x.row(0, 4, -1), -2);
        Kit.due("70: row(0, 0, 61)", x.row(0, 0, 61), -2);
        Kit.due("70: row(0, 0, -1)", x.row(0, 0, -1), -3);
        Kit.due("71: nothing", x.write(0, 0, 1), -6);
        Kit.due("71: slot 4", x.write(4, 0, 1), -2);
        Kit.due("70: row(0, 0, 60)", x.row(0, 0, 60), 0);
        Kit.due("71: number 59", x.write(0, 59, 1), 0);
        Kit.due("71: number 60", x.write(0, 60, 1), -7);
        Kit.due("71: number -1", x.write(0, -1, 1), -7);
        Kit.fill(x, 0, 0, 1);
        Kit.due("70: row(0, 0, -5)", x.row(0, 0, -5), -3);
        Kit.due("70: the slot stays", x.believes(0), 4);
        x.row(0, 0, 1);
        Kit.due("70: all 0 in place of another", x.believes(0), 6);
        long[] cut = {0x101L, 0x10001L, 0x100000001L, 1L};
        for (int width = 0; width < 4; width++) {
            Kit.fill(x, 1, width, cut[width]);
            Kit.due("71: cut to width " + width, x.believes(1), 4);
        }
        for (int width = 1; width < 4; width++) {
            Kit.fill(x, 1, width, cut[width - 1]);
            Kit.due("71: not cut by width " + width, x.believes(1), -2);
        }
        Kit.fill(x, 1, 0, 128 + 256);
        Kit.due("71: 128 is no word", x.believes(1), -2);
    }

    private static void pastes() {
        GentleLetters x = Kit.told(Kit.SAMPLE);
        Kit.fill(x, 0, 0, 0, 8, 1, 2);
        x.row(1, 1, 3);
        Kit.due("72: slot 4", x.paste(4, 0, 0, 0, 1), -2);
        Kit.due("72: to slot -1", x.paste(0, 0, -1, 0, 1), -2);
        Kit.due("72: from nothing", x.paste(2, 0, 0, 0, 1), -6);
        Kit.due("72: to nothing", x.paste(0, 0, 2, 0, 1), -6);
        Kit.due("72: nothing ahead of places", x.paste(0, -1, 2, 0, 1), -6);
        Kit.due("72: other widths", x.paste(0, 0, 1, 0, 1), -8);
        Kit.due("72: other widths ahead of places", x.paste(0, -1, 1, 0, 1), -8);
        Kit.due("72: n -1", x.paste(0, 0, 0, 0, -1), -7);
        Kit.due("72: from -1", x.paste(0, -1, 0, 0, 1), -7);
        Kit.due("72: to -1", x.paste(0, 0, 0, -1, 1), -7);
        Kit.due("72: beyond its row", x.paste(0, 2, 0, 0, 3), -7);
        Kit.due("72: beyond the other", x.paste(0, 0, 0, 2, 3), -7);
        Kit.due("72: far beyond", x.paste(0, Integer.MAX_VALUE, 0, 0, Integer.MAX_VALUE), -7);
        Kit.due("72: none at the end", x.paste(0, 4, 0, 4, 0), 0);
        Kit.due("72: nothing happened", x.believes(0) * 10 + x.lies(0), 13);
        // 0 8 1 2 becomes 0 0 8 1: as they were, not as they become
        Kit.due("72: over itself", x.paste(0, 0, 0, 1, 3), 0);
        Kit.due("72: believed", x.believes(0), 4);
        Kit.due("72: known on day 3", x.known(0), 3);
        Kit.due("72: no lie", x.lies(0), -1);
        // and back: 0 8 1 1
        Kit.due("72: over itself, down", x.paste(0, 1, 0, 0, 3), 0);
        Kit.due("72: known on day 2", x.known(0), 2);
        Kit.fill(x, 2, 0, 2, 2, 2);
        Kit.due("72: to another", x.paste(0, 2, 2, 1, 1), 0);
        Kit.due("72: 2 1 2", x.believes(2), 1);
        Kit.due("72: 2 1 2 hurts", x.worst(2, 0), 810000);
        Kit.fill(x, 3, 3, 1L << 40, 1);
        Kit.fill(x, 2, 3, 0, 0);
        x.paste(3, 0, 2, 0, 1);
        Kit.due("72: whole numbers", x.believes(2), -2);
    }
}
