import java.util.ArrayList;
import java.util.List;
import java.util.Random;
import java.util.Set;
import java.util.TreeSet;

/**
 * The document's terms in their plainest form, by sets and by going through all weeks, for OracleTest to compare with.
 * It shares no code and no way of reckoning with the program.
 */
final class Naive {
    static final int SILENCE = 8;

    int states;
    int really;
    int days;
    int heal;
    int leak;
    int[] grades;
    final List<int[]> thoughts = new ArrayList<>();
    final List<Integer> reckons = new ArrayList<>();
    final List<Integer> shames = new ArrayList<>();
    final List<Set<Integer>> meanings = new ArrayList<>();
    final List<int[]> plans = new ArrayList<>();
    final List<Integer> news = new ArrayList<>();
    final List<int[]> tells = new ArrayList<>();

    /** A desk by chance, small enough that all its weeks can be gone through. */
    static Naive byChance(Random random) {
        Naive naive = new Naive();
        naive.states = 2 + random.nextInt(random.nextInt(4) == 0 ? 7 : 3);
        naive.really = random.nextInt(naive.states);
        int words = random.nextInt(5);
        naive.days = 1 + random.nextInt(words > 3 ? 4 : 5);
        naive.heal = random.nextInt(3) == 0 ? 0 : random.nextInt(101);
        naive.leak = random.nextInt(101);
        naive.grades = new int[naive.states];
        for (int s = 0; s < naive.states; s++) {
            naive.grades[s] = random.nextInt(4) == 0 ? 0 : random.nextInt(100);
        }
        for (int h = random.nextInt(5); h > 0; h--) {
            int[] row = new int[naive.states];
            for (int s = 0; s < row.length; s++) {
                row[s] = random.nextInt(3) == 0 ? 0 : random.nextInt(21);
            }
            row[row.length - 1] += row[row.length - 1] == 0 ? 1 : 0;
            naive.thoughts.add(row);
            naive.reckons.add(random.nextInt(2) == 0 ? 0 : 1 + random.nextInt(3));
        }
        for (int w = 0; w < words; w++) {
            Set<Integer> set = new TreeSet<>();
            for (int i = 1 + random.nextInt(naive.states); i > 0; i--) {
                set.add(random.nextInt(naive.states));
            }
            naive.meanings.add(set);
            naive.shames.add(random.nextInt(1000));
        }
        for (int p = words == 0 ? 0 : random.nextInt(5); p > 0; p--) {
            int[] plan = new int[1 + random.nextInt(5)];
            for (int i = 0; i < plan.length; i++) {
                plan[i] = random.nextInt(Math.min(words, 2));
            }
            naive.plans.add(plan);
        }
        for (int i = random.nextInt(6); i > 0; i--) {
            naive.news.add((1 + random.nextInt(99)) * (random.nextInt(3) == 0 ? 1 : -1));
        }
        for (int i = naive.thoughts.size() < 2 ? 0 : random.nextInt(5); i > 0; i--) {
            int a = random.nextInt(naive.thoughts.size());
            int b = (a + 1 + random.nextInt(naive.thoughts.size() - 1)) % naive.thoughts.size();
            naive.tells.add(new int[] {a, b});
        }
        return naive;
    }

    String text() {
        StringBuilder text = new StringBuilder();
        text.append("desk states ").append(states).append(" really ").append(really).append(" days ").append(days)
                .append(" heal ").append(heal).append(" leak ").append(leak).append(";grades");
        for (int grade : grades) {
            text.append(' ').append(grade);
        }
        text.append(';');
        for (int h = 0; h < thoughts.size(); h++) {
            text.append("hearer thinks");
            for (int thought : thoughts.get(h)) {
                text.append(' ').append(thought);
            }
            text.append(reckons.get(h) > 0 ? " reckons " + reckons.get(h) : "").append(";\n");
        }
        for (int w = 0; w < meanings.size(); w++) {
            text.append("word shame ").append(shames.get(w)).append(" of");
            for (int s : meanings.get(w)) {
                text.append(' ').append(s);
            }
            text.append(';');
        }
        for (int[] plan : plans) {
            text.append("plan");
            for (int w : plan) {
                text.append(' ').append(w);
            }
            text.append(';');
        }
        for (int n : news) {
            text.append(n > 0 ? "news good " : "news bad ").append(Math.abs(n)).append(';');
        }
        for (int[] pair : tells) {
            text.append("tells ").append(pair[0]).append(' ').append(pair[1]).append(';');
        }
        return text.toString();
    }

    // ---- beliefs as sets ----

    Set<Integer> setOf(int bits) {
        Set<Integer> set = new TreeSet<>();
        for (int i = 0; i < 31; i++) {
            if ((bits & 1 << i) != 0) {
                set.add(i);
            }
        }
        return set;
    }

    int bitsOf(Set<Integer> set) {
        int bits = 0;
        for (int i : set) {
            bits += 1 << i;
        }
        return bits;
    }

    Set<Integer> everything() {
        return setOf((1 << states) - 1);
    }

    Set<Integer> truth() {
        return new TreeSet<>(List.of(really));
    }

    Set<Integer> behind(Set<Integer> belief, int word) {
        if (word == SILENCE) {
            return belief;
        }
        Set<Integer> both = new TreeSet<>(meanings.get(word));
        both.retainAll(belief);
        return both.isEmpty() ? meanings.get(word) : both;
    }

    long weight(int hearer, Set<Integer> belief, int state) {
        boolean nothing = true;
        for (int s : belief) {
            nothing &= thoughts.get(hearer)[s] == 0;
        }
        if (!belief.contains(state)) {
            return 0;
        }
        return nothing ? 1 : thoughts.get(hearer)[state];
    }

    long weights(int hearer, Set<Integer> belief) {
        long sum = 0;
        for (int s : belief) {
            sum += weight(hearer, belief, s);
        }
        return sum;
    }

    long mean(int hearer, Set<Integer> belief) {
        long sum = 0;
        for (int s : belief) {
            sum += 100L * weight(hearer, belief, s) * grades[s];
        }
        return sum / weights(hearer, belief);
    }

    long hurt(int hearer, Set<Integer> from, Set<Integer> to) {
        long rise = Math.max(0, mean(hearer, to) - mean(hearer, from));
        return rise * rise / 100;
    }

    long left(long hurt, int day, int ofDays) {
        return hurt * Math.max(0, 100 - heal * (ofDays - 1 - day)) / 100;
    }

    boolean isTrue(int word) {
        return word == SILENCE || meanings.get(word).contains(really);
    }

    long shame(int word) {
        return isTrue(word) ? 0 : shames.get(word);
    }

    // ---- all weeks ----

    /** All rows of so many days, the least first. */
    List<int[]> weeks(int ofDays, boolean honest) {
        List<int[]> rows = new ArrayList<>();
        rows.add(new int[0]);
        for (int day = 0; day < ofDays; day++) {
            List<int[]> longer = new ArrayList<>();
            for (int[] row : rows) {
                for (int word = 0; word <= SILENCE; word++) {
                    if ((word < meanings.size() || word == SILENCE) && (!honest || isTrue(word))) {
                        int[] next = java.util.Arrays.copyOf(row, day + 1);
                        next[day] = word;
                        longer.add(next);
                    }
                }
            }
            rows = longer;
        }
        return rows;
    }

    /** What is believed ahead of each day and behind the last one. */
    List<Set<Integer>> beliefs(int[] row) {
        List<Set<Integer>> list = new ArrayList<>();
        list.add(everything());
        for (int word : row) {
            list.add(behind(list.get(list.size() - 1), word));
        }
        return list;
    }

    long worth(int hearer, int[] row, boolean gentle) {
        List<Set<Integer>> list = beliefs(row);
        long most = 0;
        long sum = 0;
        for (int day = 0; day < row.length; day++) {
            long hurt = hurt(hearer, list.get(day), list.get(day + 1));
            most = Math.max(most, hurt);
            sum += left(hurt, day, row.length) + shame(row[day]);
        }
        return gentle ? most : sum;
    }

    /** The first best week of so many days, or null. */
    int[] best(int hearer, int ofDays, boolean gentle, boolean honest) {
        int[] found = null;
        long least = Long.MAX_VALUE;
        for (int[] row : weeks(ofDays, honest)) {
            if (beliefs(row).get(ofDays).equals(truth())) {
                long worth = worth(hearer, row, gentle);
                if (worth < least) {
                    least = worth;
                    found = row;
                }
            }
        }
        return found;
    }

    // ---- leaks ahead ----

    long riskBy(int hearer, int day, Set<Integer> belief, int word) {
        Set<Integer> next = behind(belief, word);
        return left(hurt(hearer, belief, next), day, days) + shame(word) + riskAhead(hearer, day + 1, next);
    }

    long riskAhead(int hearer, int day, Set<Integer> belief) {
        if (day == days) {
            return belief.equals(truth()) ? 0 : 100_000;
        }
        long least = Long.MAX_VALUE;
        for (int word = 0; word <= SILENCE; word++) {
            if (word < meanings.size() || word == SILENCE) {
                least = Math.min(least, riskBy(hearer, day, belief, word));
            }
        }
        if (day == 0) {
            return least;
        }
        return (leak * left(hurt(hearer, belief, truth()), day, days) + (100 - leak) * least) / 100;
    }

    int now(int hearer, int day, Set<Integer> belief) {
        int found = -1;
        for (int word = 0; word <= SILENCE; word++) {
            if ((word < meanings.size() || word == SILENCE)
                    && (found < 0 || riskBy(hearer, day, belief, word) < riskBy(hearer, day, belief, found))) {
                found = word;
            }
        }
        return found;
    }

    long waiting(int hearer, int day, int tellingDay) {
        long atOnce = left(hurt(hearer, everything(), truth()), day, days);
        long without = day == tellingDay ? atOnce : waiting(hearer, day + 1, tellingDay);
        return day == 0 ? without : (leak * atOnce + (100 - leak) * without) / 100;
    }

    // ---- plans ----

    List<Integer> suspects(List<Integer> told) {
        List<Integer> found = new ArrayList<>();
        for (int p = 0; p < plans.size(); p++) {
            boolean fits = plans.get(p).length >= told.size();
            for (int i = 0; fits && i < told.size(); i++) {
                fits = plans.get(p)[i] == told.get(i);
            }
            if (fits) {
                found.add(p);
            }
        }
        return found;
    }

    int knew(int hearer, int[] row) {
        List<Integer> told = new ArrayList<>();
        for (int day = 0; day < row.length; day++) {
            if (row[day] != SILENCE) {
                told.add(row[day]);
            }
            if (reckons.get(hearer) > 0 && told.size() >= reckons.get(hearer) && suspects(told).size() == 1) {
                return day;
            }
        }
        return -1;
    }

    long reckoned(int hearer, int[] row) {
        int knew = knew(hearer, row);
        Set<Integer> belief = everything();
        long sum = 0;
        for (int day = 0; day < row.length; day++) {
            Set<Integer> next = behind(belief, row[day]);
            if (knew >= 0 && day >= knew) {
                List<Integer> told = new ArrayList<>();
                for (int i = 0; i <= knew; i++) {
                    if (row[i] != SILENCE) {
                        told.add(row[i]);
                    }
                }
                int[] plan = plans.get(suspects(told).get(0));
                next = beliefs(plan).get(plan.length);
            }
            sum += hurt(hearer, belief, next);
            belief = next;
        }
        return sum;
    }

    // ---- orders, letters, hearers, draws ----

    static List<List<Integer>> orders(List<Integer> of) {
        List<List<Integer>> all = new ArrayList<>();
        if (of.isEmpty()) {
            all.add(new ArrayList<>());
        }
        for (int first : of) {
            List<Integer> others = new ArrayList<>(of);
            others.remove(Integer.valueOf(first));
            for (List<Integer> tail : orders(others)) {
                List<Integer> order = new ArrayList<>();
                order.add(first);
                order.addAll(tail);
                all.add(order);
            }
        }
        return all;
    }

    long leftByOrder(int hearer, int[] row, List<Integer> order) {
        Set<Integer> belief = everything();
        long sum = 0;
        for (int day = 0; day < row.length; day++) {
            Set<Integer> next = behind(belief, row[order.get(day)]);
            sum += left(hurt(hearer, belief, next), day, days);
            belief = next;
        }
        return sum;
    }

    long leftByLetters(int[] dayOfNews) {
        long sum = 0;
        for (int day = 0; day < days; day++) {
            long bad = 0;
            for (int i = 0; i < dayOfNews.length; i++) {
                bad -= dayOfNews[i] == day ? news.get(i) : 0;
            }
            sum += left(bad > 0 ? bad * bad : 0, day, days);
        }
        return sum;
    }

    int[] bestLetters(int n) {
        int letters = Math.min(n, days);
        int[] best = null;
        int rows = 1;
        for (int i = 0; i < news.size(); i++) {
            rows *= letters;
        }
        for (int code = 0; code < rows; code++) {
            int[] row = new int[news.size()];
            int rest = code;
            for (int i = row.length - 1; i >= 0; i--) {
                row[i] = rest % letters;
                rest /= letters;
            }
            if (best == null || leftByLetters(row) < leftByLetters(best)) {
                best = row;
            }
        }
        return best;
    }

    Set<Integer> heard(Set<Integer> set, int day) {
        if (day == 0) {
            return set;
        }
        Set<Integer> before = heard(set, day - 1);
        Set<Integer> after = new TreeSet<>(before);
        for (int[] pair : tells) {
            if (before.contains(pair[0])) {
                after.add(pair[1]);
            }
        }
        return after;
    }

    int leakDay(long seed) {
        java.math.BigInteger x = java.math.BigInteger.valueOf(seed);
        for (int day = 1; day < days; day++) {
            x = x.multiply(java.math.BigInteger.valueOf(1103515245)).add(java.math.BigInteger.valueOf(12345))
                    .mod(java.math.BigInteger.valueOf(2147483648L));
            if (x.shiftRight(16).intValue() % 100 < leak) {
                return day;
            }
        }
        return -1;
    }
}
