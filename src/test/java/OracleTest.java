import java.util.ArrayList;
import java.util.List;
import java.util.Random;
import java.util.Set;
import java.util.TreeSet;

/** Desks by chance (always the same ones): every answer against the plainest form of the document's terms. */
public final class OracleTest {
    private final Naive naive;
    private final Random random;
    private final String name;
    private GentleLetters x;

    private OracleTest(int number) {
        random = new Random(number);
        naive = Naive.byChance(random);
        name = "desk " + number + ": ";
    }

    public static void main(String[] args) {
        int desks = args.length > 0 ? Integer.parseInt(args[0]) : 250;
        for (int number = 0; number < desks; number++) {
            new OracleTest(number).compare();
        }
        Kit.finish();
    }

    private void due(String call, long got, long want) {
        Kit.due(got == want ? "" : name + naive.text() + " " + call, got, want);
    }

    private void compare() {
        x = Kit.told(naive.text());
        compareAll();
        change();
        compareAll();
    }

    private void change() {
        int state = random.nextInt(naive.states);
        int grade = random.nextInt(100);
        due("worsen", x.worsen(state, grade), naive.grades[state]);
        naive.grades[state] = grade;
        int really = random.nextInt(naive.states);
        due("really", x.really(really), naive.really);
        naive.really = really;
        for (int hearer = 0; hearer < naive.thoughts.size(); hearer++) {
            int thought = random.nextInt(2) == 0 ? 0 : random.nextInt(21);
            due("doubt", x.doubt(hearer, state, thought), naive.thoughts.get(hearer)[state]);
            naive.thoughts.get(hearer)[state] = thought;
        }
    }

    private void compareAll() {
        told();
        wholeDesk();
        fill();
        rowsWithoutHearer();
        for (int hearer = 0; hearer < naive.thoughts.size(); hearer++) {
            singleSteps(hearer);
            bestWeeks(hearer);
            leaksAhead(hearer);
            rows(hearer);
        }
        letters();
        spreading();
    }

    private void told() {
        for (int s = 0; s < naive.states; s++) {
            due("grade", x.grade(s), naive.grades[s]);
        }
        for (int w = 0; w < naive.meanings.size(); w++) {
            due("word shame", x.word(w, 0), naive.shames.get(w));
            due("word states", x.word(w, 1), naive.bitsOf(naive.meanings.get(w)));
            due("word true", x.word(w, 2), naive.isTrue(w) ? 1 : 0);
        }
        for (int p = 0; p < naive.plans.size(); p++) {
            int[] plan = naive.plans.get(p);
            for (int i = 0; i < 6; i++) {
                due("plan", x.plan(p, i), i < plan.length ? plan[i] : -1);
            }
            due("ends", x.ends(p), naive.bitsOf(naive.beliefs(plan).get(plan.length)));
        }
        for (int h = 0; h < naive.thoughts.size(); h++) {
            due("reckons", x.thinks(h, -1), naive.reckons.get(h));
            int set = 0;
            for (int[] pair : naive.tells) {
                set |= pair[0] == h ? 1 << pair[1] : 0;
            }
            due("tells", x.tells(h), set);
        }
    }

    private void wholeDesk() {
        int unsaid = 0;
        for (int s = 0; s < naive.states; s++) {
            Set<Integer> belief = naive.everything();
            for (int w = 0; w < naive.meanings.size(); w++) {
                belief = naive.meanings.get(w).contains(s) ? naive.behind(belief, w) : belief;
            }
            unsaid |= belief.equals(Set.of(s)) ? 0 : 1 << s;
        }
        due("unsaid()", x.unsaid(), unsaid);
        int fewest = -1;
        for (int[] week : naive.weeks(naive.days, false)) {
            if (naive.beliefs(week).get(naive.days).equals(naive.truth())) {
                int words = 0;
                for (int word : week) {
                    words += word == Naive.SILENCE ? 0 : 1;
                }
                fewest = fewest < 0 ? words : Math.min(fewest, words);
            }
        }
        due("fewest()", x.fewest(), fewest);
        int idle = (1 << naive.meanings.size()) - 1;
        for (int h = 0; h < naive.thoughts.size(); h++) {
            int[] week = naive.best(h, naive.days, false, false);
            for (int day = 0; week != null && day < naive.days; day++) {
                idle &= ~(1 << week[day]);
            }
        }
        due("idle()", x.idle(), idle);
    }

    private void singleSteps(int hearer) {
        for (int bits = 1; bits < 1 << naive.states; bits++) {
            Set<Integer> belief = naive.setOf(bits);
            due("mean", x.mean(hearer, bits), naive.mean(hearer, belief));
            int softest = -1;
            int calm = 0;
            for (int w = 0; w < naive.meanings.size(); w++) {
                Set<Integer> next = naive.behind(belief, w);
                due("behind", x.behind(bits, w), naive.bitsOf(next));
                due("hurt", x.hurt(hearer, bits, w), naive.hurt(hearer, belief, next));
                if (softest < 0 || naive.hurt(hearer, belief, next)
                        < naive.hurt(hearer, belief, naive.behind(belief, softest))) {
                    softest = w;
                }
            }
            due("softest", x.softest(hearer, bits), softest);
            for (int s = 0; s < naive.states; s++) {
                calm |= naive.hurt(hearer, belief, Set.of(s)) == 0 ? 1 << s : 0;
                fraction("chance", x.chance(hearer, bits, s, 0), x.chance(hearer, bits, s, 1), hearer, belief, s);
            }
            due("calm", x.calm(hearer, bits), calm);
        }
        int shock = 0;
        for (int s = 1; s < naive.states; s++) {
            shock = naive.hurt(hearer, naive.everything(), Set.of(s))
                    > naive.hurt(hearer, naive.everything(), Set.of(shock)) ? s : shock;
        }
        due("shock", x.shock(hearer), shock);
    }

    /** Of all fractions that are as much the one with the least number below. */
    private void fraction(String call, int above, int below, int hearer, Set<Integer> belief, int state) {
        long part = naive.weight(hearer, belief, state);
        long whole = naive.weights(hearer, belief);
        for (int least = 1; least <= whole; least++) {
            if (part * least % whole == 0) {
                due(call + " above", above, part * least / whole);
                due(call + " below", below, least);
                return;
            }
        }
    }

    private void bestWeeks(int hearer) {
        for (int kind = 0; kind < 4; kind++) {
            boolean gentle = kind / 2 == 1;
            boolean honest = kind % 2 == 1;
            int[] week = naive.best(hearer, naive.days, gentle, honest);
            due("best of kind " + kind, bestOf(kind, hearer), week == null ? -1 : naive.worth(hearer, week, gentle));
            for (int day = 0; day < naive.days; day++) {
                due("word of kind " + kind, wordOf(kind, hearer, day), week == null ? -1 : week[day]);
            }
            if (kind == 0) {
                longestRest(hearer, week);
                enoughDays(hearer, week);
            }
        }
        long once = naive.hurt(hearer, naive.everything(), naive.truth());
        due("once", x.once(hearer), once);
        for (int n : new int[] {0, (int) once / 2, (int) once, random.nextInt(1 + (int) once)}) {
            int late = -1;
            for (int day = 0; day < naive.days; day++) {
                late = naive.left(once, day, naive.days) <= n ? day : late;
            }
            due("late", x.late(hearer, n), late);
        }
    }

    private int bestOf(int kind, int hearer) {
        return kind == 0 ? x.least(hearer) : kind == 1 ? x.truly(hearer) : kind == 2 ? x.gentlest(hearer) : x.tender(hearer);
    }

    private int wordOf(int kind, int hearer, int day) {
        return kind == 0 ? x.step(hearer, day) : kind == 1 ? x.honest(hearer, day)
                : kind == 2 ? x.gently(hearer, day) : x.tenderly(hearer, day);
    }

    private void longestRest(int hearer, int[] week) {
        int longest = week == null ? -1 : 0;
        for (int from = 0; week != null && from < week.length; from++) {
            for (int to = from; to < week.length && week[to] == Naive.SILENCE; to++) {
                longest = Math.max(longest, to - from + 1);
            }
        }
        due("rest", x.rest(hearer), longest);
    }

    private void enoughDays(int hearer, int[] week) {
        int enough = -1;
        for (int days = naive.days; week != null && days >= 1; days--) {
            int[] shorter = naive.best(hearer, days, false, false);
            if (shorter != null && naive.worth(hearer, shorter, false) == naive.worth(hearer, week, false)) {
                enough = days;
            }
        }
        due("enough", x.enough(hearer), enough);
    }

    private void leaksAhead(int hearer) {
        due("risk", x.risk(hearer), naive.riskAhead(hearer, 0, naive.everything()));
        for (int day = 0; day < naive.days; day++) {
            int bits = 1 + random.nextInt((1 << naive.states) - 1);
            due("now", x.now(hearer, day, bits), naive.now(hearer, day, naive.setOf(bits)));
        }
        int soon = 0;
        for (int day = 1; day < naive.days; day++) {
            soon = naive.waiting(hearer, 0, day) < naive.waiting(hearer, 0, soon) ? day : soon;
        }
        due("soon", x.soon(hearer, 0), soon);
        due("soon, how much", x.soon(hearer, 1), naive.waiting(hearer, 0, soon));
    }

    // ---- rows in the slots ----

    private final int[][] weeks = new int[4][];

    private void fill() {
        for (int slot = 0; slot < 4; slot++) {
            weeks[slot] = new int[random.nextInt(naive.days + 1)];
            for (int day = 0; day < weeks[slot].length; day++) {
                int word = random.nextInt(naive.meanings.size() + 1);
                weeks[slot][day] = word == naive.meanings.size() ? Naive.SILENCE : Math.min(word, random.nextInt(4));
            }
            long[] numbers = new long[weeks[slot].length];
            for (int day = 0; day < numbers.length; day++) {
                numbers[day] = weeks[slot][day];
            }
            Kit.fill(x, slot, random.nextInt(4), numbers);
        }
    }

    private void rowsWithoutHearer() {
        for (int slot = 0; slot < 4; slot++) {
            int[] row = weeks[slot];
            List<Set<Integer>> beliefs = naive.beliefs(row);
            due("believes", x.believes(slot), naive.bitsOf(beliefs.get(row.length)));
            int lies = -1;
            int known = -1;
            long shames = 0;
            Set<Integer> read = naive.everything();
            List<Integer> told = new ArrayList<>();
            for (int day = row.length - 1; day >= 0; day--) {
                lies = naive.isTrue(row[day]) ? lies : day;
                shames += naive.shame(row[day]);
            }
            for (int day = 0; day < row.length; day++) {
                boolean isKnown = beliefs.get(day + 1).equals(naive.truth());
                known = !isKnown ? -1 : known < 0 ? day : known;
                if (row[day] != Naive.SILENCE) {
                    told.add(row[day]);
                    read.retainAll(naive.meanings.get(row[day]));
                }
            }
            due("lies", x.lies(slot), lies);
            due("shames", x.shames(slot), shames);
            due("known", x.known(slot), known);
            due("read", x.read(slot), naive.bitsOf(read));
            due("suspects", x.suspects(slot), naive.bitsOf(new TreeSet<>(naive.suspects(told))));
            for (int hearer = 0; hearer < naive.thoughts.size(); hearer++) {
                due("guess", x.guess(slot, hearer), read.isEmpty() ? -1 : naive.mean(hearer, read));
            }
        }
    }

    private void rows(int hearer) {
        for (int slot = 0; slot < 4; slot++) {
            int[] row = weeks[slot];
            List<Set<Integer>> beliefs = naive.beliefs(row);
            long sum = 0;
            long worst = 0;
            long left = 0;
            for (int day = 0; day < row.length; day++) {
                long hurt = naive.hurt(hearer, beliefs.get(day), beliefs.get(day + 1));
                sum += hurt;
                worst = Math.max(worst, hurt);
                left += naive.left(hurt, day, naive.days);
            }
            due("hurts", x.hurts(slot, hearer), sum);
            due("worst", x.worst(slot, hearer), worst);
            due("left", x.left(slot, hearer), left);
            due("knew", x.knew(slot, hearer), naive.knew(hearer, row));
            due("reckoned", x.reckoned(slot, hearer), naive.reckoned(hearer, row));
            int state = random.nextInt(naive.states);
            fraction("hope", x.hope(slot, hearer, state, 0), x.hope(slot, hearer, state, 1),
                    hearer, beliefs.get(row.length), state);
            orders(slot, hearer, row);
            draws(slot, hearer, row);
        }
    }

    private void orders(int slot, int hearer, int[] row) {
        List<Integer> days = new ArrayList<>();
        for (int day = 0; day < row.length; day++) {
            days.add(day);
        }
        List<Integer> best = days;
        for (List<Integer> order : Naive.orders(days)) {
            best = naive.leftByOrder(hearer, row, order) < naive.leftByOrder(hearer, row, best) ? order : best;
        }
        due("softer", x.softer(slot, hearer), naive.leftByOrder(hearer, row, best));
        for (int day = 0; day <= row.length; day++) {
            due("ordered", x.ordered(slot, hearer, day), day < row.length ? best.get(day) : -1);
        }
    }

    private void draws(int slot, int hearer, int[] row) {
        int seed = random.nextInt(2_000_000_001);
        int leakDay = naive.leakDay(seed);
        due("drawn", x.drawn(seed, slot, hearer, 0), leakDay);
        long sum = 0;
        Set<Integer> belief = naive.everything();
        for (int day = 0; day < naive.days; day++) {
            if (day == leakDay) {
                sum += naive.hurt(hearer, belief, naive.truth());
                break;
            }
            Set<Integer> next = day < row.length ? naive.behind(belief, row[day]) : belief;
            sum += naive.hurt(hearer, belief, next);
            belief = next;
        }
        due("drawn, hurts", x.drawn(seed, slot, hearer, 1), sum);
        int n = 1 + random.nextInt(20);
        int leaks = 0;
        for (int i = 0; i < n; i++) {
            leaks += naive.leakDay((long) seed + i) >= 0 ? 1 : 0;
        }
        due("leaks", x.leaks(seed, n), leaks);
    }

    private void letters() {
        for (int n = 1; n <= 4; n++) {
            int[] best = naive.bestLetters(n);
            due("joined", x.joined(n), naive.leftByLetters(best));
            for (int i = 0; i < best.length; i++) {
                due("letter", x.letter(n, i), best[i]);
            }
        }
        due("all", x.all(), naive.leftByLetters(new int[naive.news.size()]));
    }

    private void spreading() {
        int hearers = naive.thoughts.size();
        int first = (1 << hearers) - 1;
        for (int set = (1 << hearers) - 1; set >= 0; set--) {
            for (int day = 0; day < 6; day++) {
                due("heard", x.heard(set, day), naive.bitsOf(naive.heard(naive.setOf(set), day)));
            }
            if (naive.heard(naive.setOf(set), naive.days - 1).size() == hearers
                    && Integer.bitCount(set) <= Integer.bitCount(first)) {
                first = set;
            }
        }
        due("whom", x.whom(), Integer.bitCount(first));
        due("first", x.first(), first);
    }
}
