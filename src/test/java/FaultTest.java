import java.math.BigInteger;
import java.util.ArrayList;
import java.util.List;
import java.util.Random;
import java.util.regex.Matcher;
import java.util.regex.Pattern;

/** Texts by chance with a token put in, left out or changed: lines, fault and place against a reader by tables. */
public final class FaultTest {
    private static final Pattern TOKEN = Pattern.compile("[a-z]+|[0-9]+|;|[^ \n]");
    private static final String[] ODD = {
        "desk", "states", "really", "days", "heal", "leak", "grades", "hearer", "thinks", "reckons", "word", "shame", "of",
        "plan", "news", "good", "bad", "tells", ";", "0", "1", "2", "3", "7", "8", "10", "11", "20", "21", "99", "100", "101",
        "999", "1000", "00", "4294967296", "x", ":", "\t", "\u00e9", "Desk"
    };

    private final List<String> tokens = new ArrayList<>();
    private final List<Integer> places = new ArrayList<>();
    private int at;
    private int lines;
    private int states;
    private int hearers;
    private int words;
    private int plans;
    private int news;
    private int fault;
    private int place = -1;

    public static void main(String[] args) {
        int texts = args.length > 0 ? Integer.parseInt(args[0]) : 6000;
        for (int number = 0; number < texts; number++) {
            Random random = new Random(number);
            String text = spoilt(Naive.byChance(random).text(), random);
            if (text.length() <= 860) {
                compare(number, text);
            }
        }
        Kit.finish();
    }

    private static String spoilt(String text, Random random) {
        List<String> parts = new ArrayList<>();
        Matcher matcher = Pattern.compile("[a-z]+|[0-9]+|;|\\s+").matcher(text);
        while (matcher.find()) {
            parts.add(matcher.group());
        }
        for (int times = random.nextInt(4); times > 0 && !parts.isEmpty(); times--) {
            int i = random.nextInt(parts.size());
            String odd = ODD[random.nextInt(ODD.length)];
            switch (random.nextInt(6)) {
                case 0 -> parts.remove(i);
                case 1 -> parts.add(i, " " + odd + " ");
                case 2 -> parts.set(i, odd);
                case 3 -> parts.add(i, odd);
                case 4 -> repeatLine(parts, i);
                default -> parts.subList(i + 1, parts.size()).clear();
            }
        }
        return String.join("", parts);
    }

    /** The line in which part i stands comes once more behind it, so that there may be too many of a kind. */
    private static void repeatLine(List<String> parts, int i) {
        int to = i;
        while (to < parts.size() && !parts.get(to).equals(";")) {
            to++;
        }
        int from = i;
        while (from > 0 && !parts.get(from - 1).equals(";")) {
            from--;
        }
        if (to < parts.size() && from > 0) {
            List<String> line = new ArrayList<>(parts.subList(from, to + 1));
            for (int times = 0; times < 3; times++) {
                parts.addAll(to + 1, line);
            }
        }
    }

    private static void compare(int number, String text) {
        FaultTest due = new FaultTest();
        due.readAll(text);
        GentleLetters x = new GentleLetters();
        Kit.type(x, text);
        String name = "text " + number + " <" + text + "> ";
        Kit.due(name + "desk()", x.desk(), due.fault != 0 ? -4 : due.lines);
        Kit.due(name + "fault(0)", x.fault(0), due.fault);
        Kit.due(name + "fault(1)", x.fault(1), due.place);
        Kit.due(name + "count(9)", x.count(9), due.fault != 0 ? 0 : due.lines);
        Kit.due(name + "count(10)", x.count(10), due.fault != 0 ? text.length() : 0);
    }

    // ---- the reader by tables: a line is a row of slots, each a word or what a number may be ----

    private void readAll(String text) {
        Matcher matcher = TOKEN.matcher(text);
        while (matcher.find()) {
            tokens.add(matcher.group());
            places.add(matcher.start());
        }
        places.add(text.length());
        tokens.add("");
        while (fault == 0 && at < tokens.size() - 1) {
            readLine();
            lines++;
        }
    }

    private void readLine() {
        String word = tokens.get(at);
        if (word.equals("desk") != (lines == 0) || !word.matches("desk|grades|hearer|word|plan|news|tells")) {
            blame(1);
            return;
        }
        int had = switch (word) {
            case "hearer" -> hearers - 4;
            case "word" -> words - 8;
            case "plan" -> plans - 4;
            case "news" -> news - 6;
            default -> -1;
        };
        if (had >= 0) {
            blame(3);
            return;
        }
        at++;
        switch (word) {
            case "desk" -> slots("states 2-8=states really state days 1-10 heal 0-100 leak 0-100 ;");
            case "grades" -> slots("0-99 ".repeat(states) + ";");
            case "hearer" -> readHearer();
            case "word" -> readWord();
            case "plan" -> readPlan();
            case "news" -> readNews();
            default -> readTells();
        }
    }

    private void readHearer() {
        slots("thinks " + "0-20 ".repeat(states - 1));
        boolean nothing = fault == 0 && String.join("", tokens.subList(at - states + 1, at)).matches("0*");
        slots(nothing ? "1-20" : "0-20");
        slots(fault == 0 && tokens.get(at).equals("reckons") ? "reckons 1-5 ;" : ";");
        hearers++;
    }

    private void readWord() {
        slots("shame 0-999 of state");
        while (fault == 0 && tokens.get(at).matches("[0-9]+")) {
            slots("state");
        }
        slots(";");
        words++;
    }

    private void readPlan() {
        int size = 0;
        do {
            int before = at;
            slots("0-" + (words - 1));
            size++;
            if (fault == 0 && size == 6) {
                at = before;
                blame(3);
            }
        } while (fault == 0 && tokens.get(at).matches("[0-9]+"));
        slots(";");
        plans++;
    }

    private void readNews() {
        slots(tokens.get(at).equals("good") ? "good 1-99 ;" : "bad 1-99 ;");
        news++;
    }

    private void readTells() {
        slots("0-" + (hearers - 1));
        String teller = fault == 0 ? tokens.get(at - 1) : "";
        slots("0-" + (hearers - 1));
        if (fault == 0 && new BigInteger(tokens.get(at - 1)).equals(new BigInteger(teller))) {
            at--;
            blame(2);
        }
        slots(";");
    }

    private void slots(String row) {
        for (String slot : row.trim().split(" ")) {
            if (fault == 0) {
                slot(slot.equals("state") ? "0-" + (states - 1) : slot);
            }
        }
    }

    private void slot(String slot) {
        String token = tokens.get(at);
        if (!slot.contains("-")) {
            if (!token.equals(slot)) {
                blame(1);
                return;
            }
        } else {
            String[] bounds = slot.replace("=states", "").split("-", 2);
            if (!token.matches("[0-9]+")) {
                blame(1);
                return;
            }
            BigInteger value = new BigInteger(token);
            if (value.compareTo(new BigInteger(bounds[0])) < 0 || value.compareTo(new BigInteger(bounds[1])) > 0) {
                blame(2);
                return;
            }
            states = slot.endsWith("=states") ? value.intValue() : states;
        }
        at++;
    }

    private void blame(int what) {
        fault = what;
        place = places.get(at);
    }
}
