/** Of term I the slots, and promises 70 to 72: their rows; each sentence by a test of its own. */
public final class SlotsTest extends Kit {
    public static void main(String[] args) {
        slots();
        row();
        write();
        paste();
        pasteRefused();
        finish();
    }

    private static void slots() {
        term("I", "SLOTS 0 .. 3 have rows of numbers of 1, 2, 4 or 8 bytes (WIDTH 0 .. 3)");
        GentleLetters x = told(SAMPLE);
        long[] more = {1L << 8, 1L << 16, 1L << 32};
        for (int slot = 0; slot < 4; slot++) {
            for (int width = 0; width < 4; width++) {
                fill(x, slot, width, 1);
                due("1 in slot " + slot + ", width " + width, x.believes(slot), 4);
            }
        }
        for (int width = 0; width < 4; width++) {
            for (int bytes = 0; bytes < 3; bytes++) {
                fill(x, 0, width, more[bytes] + 1);
                due(more[bytes] + " and 1 of width " + width, x.believes(0), width <= bytes ? 4 : -2);
            }
        }
        term("I", ", at most 60, or nothing.");
        due("60", x.row(0, 3, 60), 0);
        due("61", x.row(0, 3, 61), -2);
        GentleLetters y = new GentleLetters();
        due("nothing at first", y.count(12), 0);
        due("and nothing to write to", y.write(0, 0, 0), -6);
    }

    private static void row() {
        GentleLetters x = told(SAMPLE);
        says(70, "A SLOT (0 .. 3) has a row of n numbers of a WIDTH, all 0");
        for (int slot = 0; slot < 4; slot++) {
            due("slot " + slot, x.row(slot, slot, slot), 0);
            due("number " + (slot - 1), x.write(slot, slot - 1, 0), slot == 0 ? -7 : 0);
            due("number " + slot, x.write(slot, slot, 0), -7);
        }
        due("all 0: {1 2}, again and again", x.believes(3), 6);
        due("a row of none", x.believes(0), 7);
        due("sixty", x.row(0, 3, 60), 0);
        due("the last of sixty", x.write(0, 59, 1), 0);
        says(70, "(in place of another one): 0.");
        fill(x, 0, 3, 1, 1, 1);
        due("another", x.row(0, 0, 2), 0);
        due("all 0 again", x.believes(0), 6);
        due("two alone", x.write(0, 2, 0), -7);
        fill(x, 0, 0, 1, 1);
        due("shorter and longer again", x.row(0, 0, 1) + x.row(0, 0, 2), 0);
        due("all 0", x.believes(0), 6);
        says(70, "-2: there is no such SLOT or WIDTH (0 .. 3)");
        fill(x, 0, 0, 1);
        due("slot 4", x.row(4, 0, 0), -2);
        due("slot -1", x.row(-1, 0, 0), -2);
        due("width 4", x.row(0, 4, 0), -2);
        due("width -1", x.row(0, -1, 0), -2);
        due("width MAX", x.row(0, Integer.MAX_VALUE, 0), -2);
        due("slot 4, n -1", x.row(4, 0, -1), -2);
        due("width 4, n -1", x.row(0, 4, -1), -2);
        due("the slot stays", x.believes(0), 4);
        says(70, ", or n is above 60");
        due("n 61", x.row(0, 0, 61), -2);
        due("n MAX", x.row(0, 0, Integer.MAX_VALUE), -2);
        due("the slot stays", x.believes(0), 4);
        due("n 60", x.row(1, 0, 60), 0);
        says(70, "-3, and the SLOT stays: n is below 0.");
        due("n -1", x.row(0, 0, -1), -3);
        due("n MIN", x.row(0, 0, Integer.MIN_VALUE), -3);
        due("the slot stays", x.believes(0), 4);
        GentleLetters y = new GentleLetters();
        due("n -1 of a new object", y.row(0, 0, -1), -3);
        due("it has nothing yet", y.count(12), 0);
    }

    private static void write() {
        GentleLetters x = told(SAMPLE);
        says(71, "Number i of the SLOT's row is v");
        x.row(0, 0, 3);
        due("write(0, 1, 1)", x.write(0, 1, 1), 0);
        due("0 1 0", x.known(0), 1);
        due("write(0, 0, 1)", x.write(0, 0, 1), 0);
        due("1 1 0", x.known(0), 0);
        due("write(0, 2, 2)", x.write(0, 2, 2), 0);
        due("1 1 2", x.lies(0), 2);
        says(71, ", cut to its WIDTH: 0.");
        long[] cut = {0x101L, 0x10001L, 0x100000001L, 1L};
        long[] far = {-0xffL, -0xffffL, -0xffffffffL, 1L};
        for (int width = 0; width < 4; width++) {
            x.row(1, width, 1);
            due("write() of width " + width, x.write(1, 0, cut[width]), 0);
            due("it is 1", x.believes(1), 4);
            due("write() below 0, width " + width, x.write(1, 0, far[width]), 0);
            due("it is 1 too", x.believes(1), 4);
        }
        for (int width = 1; width < 4; width++) {
            fill(x, 1, width, cut[width - 1]);
            due("not cut by width " + width, x.believes(1), -2);
        }
        fill(x, 1, 0, 256 + 8);
        due("silence", x.believes(1), 7);
        fill(x, 1, 0, 128 + 256);
        due("128 is no word", x.believes(1), -2);
        fill(x, 1, 3, Long.MIN_VALUE);
        due("of eight bytes nothing is cut", x.believes(1), -2);
        says(71, "-2: there is no such SLOT");
        due("slot 4", x.write(4, 0, 1), -2);
        due("slot -1", x.write(-1, 0, 1), -2);
        due("slot 4, number -1", x.write(4, -1, 1), -2);
        says(71, "-6: it has nothing");
        due("slot 2", x.write(2, 0, 1), -6);
        due("slot 2, number -1", x.write(2, -1, 1), -6);
        says(71, "-7: there is no such number.");
        x.row(0, 0, 60);
        due("number 60", x.write(0, 60, 1), -7);
        due("number -1", x.write(0, -1, 1), -7);
        due("number MAX", x.write(0, Integer.MAX_VALUE, 1), -7);
        due("number MIN", x.write(0, Integer.MIN_VALUE, 1), -7);
        x.row(0, 0, 0);
        due("number 0 of none", x.write(0, 0, 1), -7);
        x.row(0, 0, 2);
        due("number 2 of two", x.write(0, 2, 1), -7);
        due("the row stays", x.believes(0), 6);
    }

    private static void paste() {
        says(72, "So many numbers of a SLOT's row, from one on, are put to another one's");
        GentleLetters x = week(0, 8, 1, 2);
        fill(x, 2, 0, 2, 2, 2);
        due("one", x.paste(0, 2, 2, 1, 1), 0);
        due("2 1 2", x.believes(2), 1);
        due("2 1 2 hurts", x.worst(2, 0), 810000);
        due("three", x.paste(0, 0, 2, 0, 3), 0);
        due("0 8 1", x.known(2), 2);
        due("none", x.paste(0, 4, 2, 3, 0), 0);
        due("0 8 1 yet", x.known(2), 2);
        due("where it came from it stays", x.lies(0), 3);
        fill(x, 3, 3, 1L << 40, 1);
        fill(x, 1, 3, 0, 0);
        due("of eight bytes", x.paste(3, 0, 1, 0, 1), 0);
        due("whole", x.believes(1), -2);
        due("the other", x.paste(3, 1, 1, 0, 1), 0);
        due("1 0", x.known(1), 0);
        GentleLetters full = told(SAMPLE);
        full.row(0, 1, 60);
        full.row(1, 1, 60);
        due("all sixty", full.paste(0, 0, 1, 0, 60), 0);
        says(72, "(or its own), from one on, as they were: 0.");
        // 0 8 1 2 becomes 0 0 8 1, not 0 0 0 0
        GentleLetters y = week(0, 8, 1, 2);
        due("upwards", y.paste(0, 0, 0, 1, 3), 0);
        due("believed", y.believes(0), 4);
        due("known on day 3", y.known(0), 3);
        due("no lie", y.lies(0), -1);
        // and 0 8 1 1
        due("downwards", y.paste(0, 1, 0, 0, 3), 0);
        due("known on day 2", y.known(0), 2);
        due("onto itself", y.paste(0, 0, 0, 0, 4), 0);
        due("known on day 2 yet", y.known(0), 2);
    }

    private static void pasteRefused() {
        GentleLetters x = week(0, 8, 1, 2);
        x.row(1, 1, 3);
        says(72, "-2: there is no such SLOT");
        due("from slot 4", x.paste(4, 0, 0, 0, 1), -2);
        due("from slot -1", x.paste(-1, 0, 0, 0, 1), -2);
        due("to slot 4", x.paste(0, 0, 4, 0, 1), -2);
        due("to slot -1", x.paste(0, 0, -1, 0, 1), -2);
        due("to slot 4, from nothing", x.paste(2, 0, 4, 0, 1), -2);
        due("n -1", x.paste(4, -1, 4, -1, -1), -2);
        says(72, "-6: one has nothing");
        due("from nothing", x.paste(2, 0, 0, 0, 1), -6);
        due("to nothing", x.paste(0, 0, 2, 0, 1), -6);
        due("nothing to nothing", x.paste(2, 0, 2, 0, 0), -6);
        due("to nothing, place -1", x.paste(0, -1, 2, 0, 1), -6);
        says(72, "-8: they are not of one WIDTH");
        due("0 to 1", x.paste(0, 0, 1, 0, 1), -8);
        due("1 to 0", x.paste(1, 0, 0, 0, 1), -8);
        due("n 0", x.paste(0, 0, 1, 0, 0), -8);
        due("place -1", x.paste(0, -1, 1, 0, 1), -8);
        says(72, "-7, and nothing happens: some are beyond their rows");
        fill(x, 2, 0, 2, 2, 2);
        due("beyond its own", x.paste(0, 2, 2, 0, 3), -7);
        due("beyond the other", x.paste(0, 0, 2, 1, 3), -7);
        due("one too many", x.paste(0, 0, 2, 0, 4), -7);
        due("from the end on", x.paste(0, 4, 2, 0, 1), -7);
        due("to the end", x.paste(0, 0, 2, 3, 1), -7);
        due("far beyond", x.paste(0, Integer.MAX_VALUE, 0, 0, Integer.MAX_VALUE), -7);
        due("n MAX", x.paste(0, 1, 0, 1, Integer.MAX_VALUE), -7);
        due("none of them, from behind the end", x.paste(0, 5, 2, 0, 0), -7);
        due("nothing happened", x.lies(2), 0);
        due("nor there", x.known(0), -1);
        says(72, ", or a place or n is below 0.");
        due("n -1", x.paste(0, 0, 2, 0, -1), -7);
        due("n MIN", x.paste(0, 0, 2, 0, Integer.MIN_VALUE), -7);
        due("from -1", x.paste(0, -1, 2, 0, 1), -7);
        due("to -1", x.paste(0, 0, 2, -1, 1), -7);
        due("from -1, n 0", x.paste(0, -1, 2, 0, 0), -7);
        due("to MIN", x.paste(0, 0, 2, Integer.MIN_VALUE, 1), -7);
        due("nothing happened", x.shames(2), 60);
    }
}
