import java.util.ArrayList;
import java.util.Arrays;
import java.util.HashMap;
import java.util.List;
import java.util.Map;
import java.util.Random;

/** Compares what needs a search with answers found by trying everything, on many small cases. */
public final class SearchTests {
    private static int wrong = 0;

    private static void due(String what, long got, long want) {
        if (got != want) {
            wrong++;
            System.out.println(what + " answered " + got + ", due is " + want);
        }
    }

    public static void main(String[] args) {
        Random random = new Random(7);
        for (int i = 0; i < 300; i++) {
            roads(random);
            texts(random);
            rows(random);
            exchange(random);
            voyages(random);
            crossing(random);
            longCrossing(random);
            rounds(random);
            acts(random);
        }
        for (int i = 0; i < 20000; i++) {
            faults(random);
        }
        System.out.println(wrong == 0 ? "all searches are as due" : wrong + " answers are not as due");
        if (wrong != 0) {
            System.exit(1);
        }
    }

    // ---- FAR, by the least way of at most so many roads

    private static void roads(Random random) {
        NameRolls x = new NameRolls();
        int camps = 2 + random.nextInt(6);
        int[] side = new int[18];
        for (int i = 0; i < camps; i++) {
            side[i] = random.nextInt(2);
            x.camp(side[i], 1);
        }
        int[][] road = new int[18][18];
        for (int i = 0; i < 12; i++) {
            int a = point(random, camps);
            int b = point(random, camps);
            int days = 1 + random.nextInt(9);
            boolean isRoad = a != b && (a > 15 || b > 15 || side[a] == side[b]);
            if (isRoad) {
                road[a][b] = road[a][b] == 0 ? days : Math.min(days, road[a][b]);
                road[b][a] = road[a][b];
            }
            due("road", x.road(a, b, days), isRoad ? road[a][b] : -1);
        }
        for (int from = 0; from < camps; from++) {
            int[] least = leastWays(from, camps, side, road);
            for (int to = 0; to < 18; to++) {
                boolean isPoint = to < camps || to > 15;
                due("far", x.far(from, to), !isPoint ? -1 : least[to] > 9999 ? -4 : least[to]);
            }
        }
    }

    private static int point(Random random, int camps) {
        int p = random.nextInt(camps + 2);
        return p < camps ? p : 16 + p - camps;
    }

    private static int[] leastWays(int from, int camps, int[] side, int[][] road) {
        int[] least = new int[18];
        java.util.Arrays.fill(least, 10000);
        least[from] = 0;
        for (int i = 0; i < 18; i++) {
            for (int a = 0; a < 18; a++) {
                for (int b = 0; b < 18; b++) {
                    boolean passes = a > 15 || side[a] == side[from];
                    if (road[a][b] > 0 && passes && least[a] + road[a][b] < least[b]) {
                        least[b] = least[a] + road[a][b];
                    }
                }
            }
        }
        return least;
    }

    // ---- texts, made together with their values

    private static int value;
    private static final int[] NAME_VALUES = {2, 4, 1, 0, 77, 5, 0, 3, 1};

    private static NameRolls told() {
        NameRolls x = new NameRolls();
        x.camp(0, 9);
        x.person(2, 0, 77, -1, 4);
        x.person(3, 0, 1, -1, 0);
        x.person(1, 0, 1, -1, 0);
        x.fact(0, 0, 0);
        x.fact(0, 1, 1);
        x.fact(0, 2, 1);
        return x;
    }

    private static void texts(Random random) {
        NameRolls x = told();
        StringBuilder whole = new StringBuilder();
        int lines = 1 + random.nextInt(3);
        int want = 0;
        int line = -1;
        for (int i = 0; i < lines; i++) {
            whole.append(i == 0 ? "" : ";");
            boolean counts = true;
            if (random.nextBoolean()) {
                whole.append(make(random, 0, 0)).append('?');
                counts = value != 0;
            }
            whole.append(make(random, 0, 0));
            if (counts && line < 0) {
                line = i;
                want = value;
            }
        }
        if (whole.length() > 160) {
            return;
        }
        due("text " + whole, feed(x, whole.toString()), 0);
        due("says " + whole, x.says(0, 0, 0, 5, 0), want);
        due("line " + whole, x.says(0, 0, 1, 5, 0), line);
    }

    private static int feed(NameRolls x, String s) {
        for (int i = 0; i < s.length(); i++) {
            x.feed(1, s.charAt(i));
        }
        return x.text(0, 0);
    }

    private static final String[] SIGNS = {"|", "&", "<=>", "+-", "*/"};

    /** Makes an expression of a rank, its value in the field. */
    private static String make(Random random, int rank, int open) {
        if (rank == 5) {
            return makeOperand(random, open);
        }
        StringBuilder s = new StringBuilder(make(random, rank + 1, open));
        int v = value;
        int more = random.nextInt(4) > 0 ? 0 : rank == 2 ? 1 : 1 + random.nextInt(2);
        for (int i = 0; i < more; i++) {
            char c = SIGNS[rank].charAt(random.nextInt(SIGNS[rank].length()));
            s.append(c).append(make(random, rank + 1, open));
            v = work(c, v, value);
        }
        value = v;
        return s.toString();
    }

    private static int work(char c, int a, int b) {
        switch (c) {
            case '|': return (a != 0 ? 1 : 0) | (b != 0 ? 1 : 0);
            case '&': return (a != 0 ? 1 : 0) & (b != 0 ? 1 : 0);
            case '<': return Integer.compare(a, b) < 0 ? 1 : 0;
            case '=': return Integer.compare(a, b) == 0 ? 1 : 0;
            case '>': return Integer.compare(a, b) > 0 ? 1 : 0;
            case '+': return (int) ((long) a + b);
            case '-': return (int) ((long) a - b);
            case '*': return (int) ((long) a * b);
            default: return b == 0 ? 0 : (int) ((long) a / b);
        }
    }

    private static String makeOperand(Random random, int open) {
        int choice = open > 3 ? random.nextInt(8) : random.nextInt(11);
        if (choice < 4) {
            value = random.nextInt(choice == 0 ? 10000 : 4);
            return Integer.toString(value);
        }
        if (choice < 8) {
            int name = random.nextInt(9);
            value = NAME_VALUES[name];
            return "" + "kgynadbct".charAt(name);
        }
        if (choice == 8) {
            String s = makeOperand(random, open + 1);
            value = value == 0 ? 1 : 0;
            return "!" + s;
        }
        return "(" + make(random, 0, open + 1) + ")";
    }

    // ---- faults, by an automaton with a stack

    private static void faults(Random random) {
        String signs = "kg12((!!))+*<=&|?;;x";
        StringBuilder s = new StringBuilder();
        int n = random.nextInt(24);
        for (int i = 0; i < n; i++) {
            s.append(signs.charAt(random.nextInt(random.nextInt(3) == 0 ? signs.length() : 8)));
            if (random.nextInt(3) == 0) {
                s.append("+*-/&|<;".charAt(random.nextInt(8)));
            }
        }
        int at = faultOf(s.toString());
        due("text of " + s, feed(new NameRolls(), s.toString()), at < 0 ? 0 : -100 - at);
    }

    private static int faultOf(String s) {
        List<Character> open = new ArrayList<>();
        boolean[] compared = new boolean[20];
        boolean operand = true;
        boolean asked = false;
        int digits = 0;
        int parens = 0;
        for (int i = 0; i < s.length(); i++) {
            char c = s.charAt(i);
            if (Character.isDigit(c) && (operand || digits > 0 && digits < 4)) {
                digits = operand ? 1 : digits + 1;
                operand = false;
            } else if (operand && "kgyandbct".indexOf(c) >= 0) {
                operand = false;
                digits = 0;
            } else if (operand && (c == '(' || c == '!') && open.size() < 8) {
                open.add(c);
                if (c == '(') {
                    parens++;
                    compared[parens] = false;
                }
            } else if (operand) {
                return i;
            } else {
                digits = 0;
                while (!open.isEmpty() && open.get(open.size() - 1) == '!') {
                    open.remove(open.size() - 1);
                }
                operand = c != ')';
                if (c == ')' && parens > 0) {
                    open.remove(open.size() - 1);
                    parens--;
                } else if ("|&".indexOf(c) >= 0) {
                    compared[parens] = false;
                } else if ("<=>".indexOf(c) >= 0 && !compared[parens]) {
                    compared[parens] = true;
                } else if (c == '?' && parens == 0 && !asked) {
                    asked = true;
                    compared[0] = false;
                } else if (c == ';' && parens == 0) {
                    asked = false;
                    compared[0] = false;
                } else if ("+-*/".indexOf(c) < 0) {
                    return i;
                }
            }
        }
        return operand || parens > 0 ? s.length() : -1;
    }

    // ---- rows that are joined, and clashes, by same()

    private static void rows(Random random) {
        NameRolls x = new NameRolls();
        int n = 2 + random.nextInt(10);
        int[] side = new int[n];
        int[] age = new int[n];
        int[] unit = new int[n];
        for (int i = 0; i < n; i++) {
            side[i] = random.nextInt(2);
            age[i] = random.nextInt(12) == 0 ? -1 : 20 + random.nextInt(5);
            unit[i] = random.nextInt(12) == 0 ? -1 : random.nextInt(2);
            int letter = random.nextInt(12) == 0 ? 27 : 1 + random.nextInt(3);
            due("row", x.row(side[i], 28 * 5 + letter, age[i], unit[i]), i);
        }
        x.canBe(1 + random.nextInt(3), 1 + random.nextInt(3), 1);
        x.canBe(1 + random.nextInt(3), 1 + random.nextInt(3), random.nextInt(2));
        boolean[][] together = closure(x, n);
        int clashes = 0;
        int first = -4;
        int second = -4;
        for (int a = 0; a < n; a++) {
            int joined = 0;
            for (int b = 0; b < n; b++) {
                joined += together[a][b] ? 1 : 0;
                boolean told = age[a] >= 0 && age[b] >= 0 && unit[a] >= 0 && unit[b] >= 0;
                boolean apart = side[a] != side[b] ? x.same(a, b, 0) == 0
                    : told && (Math.abs(age[a] - age[b]) > 2 || unit[a] != unit[b]);
                if (a < b && together[a][b] && apart) {
                    first = clashes == 0 ? a : first;
                    second = clashes == 0 ? b : second;
                    clashes++;
                }
            }
            due("joined", x.joined(a), joined);
        }
        due("clash(0)", x.clash(0), clashes);
        due("clash(1)", x.clash(1), first);
        due("clash(2)", x.clash(2), second);
    }

    private static boolean[][] closure(NameRolls x, int n) {
        boolean[][] together = new boolean[n][n];
        for (int a = 0; a < n; a++) {
            for (int b = 0; b < n; b++) {
                together[a][b] = a == b || x.same(a, b, 0) == 2;
            }
        }
        for (int k = 0; k < n; k++) {
            for (int a = 0; a < n; a++) {
                for (int b = 0; b < n; b++) {
                    together[a][b] |= together[a][k] && together[k][b];
                }
            }
        }
        return together;
    }

    // ---- exchanges: judge() by the words of the document, best() by judge()

    private static final class Held {
        int kind;
        int side;
        int camp;
        int age;
        int with;
        int grade;
        boolean gone;
        boolean asked;
    }

    private static void exchange(Random random) {
        NameRolls x = new NameRolls();
        x.camp(0, 99);
        x.camp(1, 99);
        x.camp(0, 99);
        List<Held> all = new ArrayList<>();
        List<List<Integer>> lists = List.of(new ArrayList<>(), new ArrayList<>());
        for (int i = 0; i < 16; i++) {
            all.add(holdOne(random, x, all, i));
        }
        for (int i = 0; i < 10; i++) {
            int p = random.nextInt(16);
            List<Integer> list = lists.get(all.get(p).side);
            if (!list.contains(p) && list.size() < 4) {
                list.add(p);
                due("offer", x.offer(p), list.size());
            }
        }
        for (int i = 0; i < 16; i++) {
            all.get(i).gone = random.nextInt(12) == 0;
            if (all.get(i).gone) {
                x.become(i, 6);
            }
        }
        feedFor(x, "a/9", 1);
        feedFor(x, "a/3", 22);
        feedFor(x, "1+a/4", 32);
        int ratio = 1 + random.nextInt(3);
        x.ratio(ratio);
        int[] best = {-1, 0, 0, 0};
        for (int a = 0; a < 1 << lists.get(0).size(); a++) {
            for (int b = 0; b < 1 << lists.get(1).size(); b++) {
                int want = verdict(all, lists, a, b, ratio);
                due("judge", x.judge(a, b), want);
                int n = Integer.bitCount(a) + Integer.bitCount(b);
                int unlike = Math.abs(Integer.bitCount(a) - Integer.bitCount(b));
                if (want == 0 && (n > best[0] || n == best[0] && unlike < best[1])) {
                    best = new int[] {n, unlike, a, b};
                }
            }
        }
        boolean empty = lists.get(0).isEmpty() || lists.get(1).isEmpty();
        due("best", x.best(), empty ? -3 : best[0]);
        due("bestOf(0)", x.bestOf(0), empty ? -1 : best[2]);
        due("bestOf(1)", x.bestOf(1), empty ? -1 : best[3]);
    }

    private static void feedFor(NameRolls x, String s, int what) {
        for (int i = 0; i < s.length(); i++) {
            x.feed(1, s.charAt(i));
        }
        x.text(what, 0);
    }

    private static Held holdOne(Random random, NameRolls x, List<Held> all, int number) {
        Held h = new Held();
        h.kind = new int[] {1, 2, 2, 3, 3, 6, 6}[random.nextInt(7)];
        h.camp = random.nextInt(3);
        h.side = h.camp == 1 ? 1 : 0;
        h.age = random.nextInt(40);
        h.with = -1;
        if (h.kind == 6 && number > 0) {
            int w = random.nextInt(number);
            h.with = all.get(w).side == h.side ? w : -1;
        }
        h.grade = h.kind == 2 ? 1 + random.nextInt(9) : 0;
        due("person", x.person(h.kind, h.camp, h.age, h.with, h.grade), number);
        h.asked = random.nextInt(6) == 0;
        if (h.asked) {
            x.fact(number, 1, 1);
        }
        return h;
    }

    private static List<Integer> picked(List<Integer> list, int set) {
        List<Integer> picked = new ArrayList<>();
        for (int i = 0; i < list.size(); i++) {
            if ((set >> i & 1) == 1) {
                picked.add(list.get(i));
            }
        }
        return picked;
    }

    private static int verdict(List<Held> all, List<List<Integer>> lists, int a, int b, int ratio) {
        List<Integer> from0 = picked(lists.get(0), a);
        List<Integer> from1 = picked(lists.get(1), b);
        List<Integer> going = new ArrayList<>(from0);
        going.addAll(from1);
        if (going.stream().anyMatch(p -> all.get(p).gone)) {
            return 1;
        }
        if (going.stream().anyMatch(p -> all.get(p).asked && all.get(p).age >= 9)) {
            return 2;
        }
        if (from0.stream().mapToInt(p -> all.get(p).age / 3).sum()
            > from1.stream().mapToInt(p -> all.get(p).age / 3).sum()) {
            return 3;
        }
        if (from1.stream().mapToInt(p -> 1 + all.get(p).age / 4).sum()
            > from0.stream().mapToInt(p -> 1 + all.get(p).age / 4).sum()) {
            return 4;
        }
        for (List<Integer> list : lists) {
            for (int p : list) {
                int w = all.get(p).with;
                if (w >= 0 && list.contains(w) && going.contains(p) != going.contains(w)) {
                    return 5;
                }
            }
        }
        for (int camp = 0; camp < 3; camp++) {
            int were = 0;
            int doctors = 0;
            int sick = 0;
            for (int p = 0; p < all.size(); p++) {
                Held h = all.get(p);
                if (!h.gone && h.camp == camp) {
                    were += h.kind == 3 ? 1 : 0;
                    doctors += h.kind == 3 && !going.contains(p) ? 1 : 0;
                    sick += h.grade > 0 && !going.contains(p) ? 1 : 0;
                }
            }
            int wanted = sick / ratio + (sick % ratio == 0 ? 0 : 1);
            if (doctors < wanted && doctors < were) {
                return 6;
            }
        }
        return 0;
    }

    // ---- voyages, by giving each camp a voyage in all ways

    private static void voyages(Random random) {
        NameRolls x = new NameRolls();
        int n = 1 + random.nextInt(random.nextInt(4) == 0 ? 6 : 5);
        int[][] camp = new int[n][];
        int today = random.nextInt(20);
        if (today > 0) {
            x.days(today);
        }
        for (int i = 0; i < n; i++) {
            camp[i] = new int[] {random.nextInt(4), 1 + random.nextInt(4), 1 + random.nextInt(9)};
            x.camp(0, 1);
            x.road(i, 16, camp[i][2]);
            due("load", x.load(i, camp[i][0], camp[i][1]), i + 1);
        }
        boolean isGreat = random.nextInt(3) == 0;
        int stretchers = (isGreat ? 15 : 3) + random.nextInt(5);
        int feet = (isGreat ? 20 : 4) + random.nextInt(6);
        int turn = 1 + random.nextInt(isGreat ? 30 : 5);
        List<Integer> best = null;
        int ways = 1;
        for (int i = 0; i < n; i++) {
            ways *= n;
        }
        for (int way = 0; way < ways; way++) {
            List<Integer> plan = plan(camp, way, stretchers, feet, turn, today);
            if (plan != null && (best == null || isAhead(plan, best))) {
                best = plan;
            }
        }
        due("sail", x.sail(stretchers, feet, turn), best.get(0));
        int count = (best.size() - 1) / 2;
        for (int i = 0; i <= count; i++) {
            due("voyage " + i, x.voyage(i, 0), i == count ? -1 : best.get(1 + i));
            due("voyage " + i, x.voyage(i, 1), i == count ? -1 : best.get(1 + count + i));
        }
    }

    /** The sum, the sets, then the DAYS; null if a voyage is empty or too great. */
    private static List<Integer> plan(int[][] camp, int way, int stretchers, int feet, int turn, int today) {
        int n = camp.length;
        int[] set = new int[n];
        int rest = way;
        int last = 0;
        for (int i = 0; i < n; i++) {
            set[rest % n] |= 1 << i;
            last = Math.max(last, rest % n);
            rest /= n;
        }
        List<Integer> plan = new ArrayList<>(List.of(0));
        List<Integer> days = new ArrayList<>();
        int free = today;
        int sum = 0;
        for (int v = 0; v <= last; v++) {
            int day = free;
            int s = 0;
            int f = 0;
            for (int i = 0; i < n; i++) {
                if ((set[v] >> i & 1) == 1) {
                    s += camp[i][0];
                    f += camp[i][1];
                    day = Math.max(day, today + camp[i][2]);
                }
            }
            if (set[v] == 0 || s > stretchers || f > feet) {
                return null;
            }
            sum += (s + f) * day;
            free = day + turn;
            plan.add(set[v]);
            days.add(day);
        }
        plan.set(0, sum);
        plan.addAll(days);
        return plan;
    }

    private static boolean isAhead(List<Integer> a, List<Integer> b) {
        for (int i = 0; i < Math.min(a.size(), b.size()); i++) {
            if (!a.get(i).equals(b.get(i))) {
                return a.get(i) < b.get(i);
            }
        }
        return false;
    }

    // ---- the bridge, by all that can begin in each minute

    private static int[][] walkers;
    private static int[] plan;

    private static void crossing(Random random) {
        NameRolls x = new NameRolls();
        walkers = new int[2][];
        for (int row = 0; row < 2; row++) {
            walkers[row] = new int[1 + random.nextInt(3)];
            for (int i = 0; i < walkers[row].length; i++) {
                walkers[row][i] = 1 + random.nextInt(3);
                due("walker", x.walker(row, walkers[row][i]), i + 1);
            }
        }
        int ahead = 1 + random.nextInt(2);
        int least = -4;
        for (int minutes = 1; minutes <= 18 && least < 0; minutes++) {
            plan = new int[minutes];
            if (walk(0, new int[2], new int[2], ahead)) {
                least = minutes;
            }
        }
        due("bridge", x.bridge(ahead), least);
        for (int m = 0; m <= 18; m++) {
            due("began", x.began(m), m < least ? plan[m] : -1);
        }
    }

    /** over: how many of each row are over; left: the minutes of the one who walks. */
    private static boolean walk(int minute, int[] over, int[] left, int ahead) {
        if (minute == plan.length) {
            return over[0] == walkers[0].length && over[1] == walkers[1].length;
        }
        for (int begin : new int[] {3, 1, 2, 0}) {
            int[] nextOver = over.clone();
            int[] nextLeft = left.clone();
            boolean can = true;
            for (int row = 0; row < 2; row++) {
                if ((begin >> row & 1) == 1) {
                    can &= left[row] == 0 && over[row] < walkers[row].length;
                    nextLeft[row] = can ? walkers[row][over[row]] : 0;
                }
                if (nextLeft[row] > 0) {
                    nextLeft[row]--;
                    nextOver[row] += nextLeft[row] == 0 ? 1 : 0;
                }
            }
            plan[minute] = begin;
            if (can && Math.abs(nextOver[0] - nextOver[1]) <= ahead && walk(minute + 1, nextOver, nextLeft, ahead)) {
                return true;
            }
        }
        return false;
    }

    // ---- the bridge with long rows, by all states of both, each asked once

    private static final int NEVER = 1000000;
    private static Map<Integer, Integer> leastLeft;

    private static void longCrossing(Random random) {
        NameRolls x = new NameRolls();
        walkers = new int[2][];
        int size = 6 + random.nextInt(5);
        for (int row = 0; row < 2; row++) {
            walkers[row] = new int[Math.max(1, Math.min(10, size + random.nextInt(4) - 2))];
            for (int i = 0; i < walkers[row].length; i++) {
                walkers[row][i] = random.nextBoolean() ? 1 + random.nextInt(9) : 1 + random.nextInt(2) * 8;
                due("walker", x.walker(row, walkers[row][i]), i + 1);
            }
        }
        int ahead = 1 + random.nextInt(3);
        leastLeft = new HashMap<>();
        int least = leastFrom(new int[4], ahead);
        due("bridge", x.bridge(ahead), least >= NEVER ? -4 : least);
        if (least >= NEVER) {
            return;
        }
        int[] state = new int[4];
        for (int m = 0; m < least; m++) {
            for (int begin : new int[] {3, 1, 2, 0}) {
                int[] next = minute(state, begin, ahead);
                if (next != null && leastFrom(next, ahead) == least - m - 1) {
                    due("began", x.began(m), begin);
                    state = next;
                    break;
                }
            }
        }
        due("began", x.began(least), -1);
    }

    /** The state: of both rows how many are over, then the minutes that the one who walks has left. */
    private static int leastFrom(int[] state, int ahead) {
        if (state[0] == walkers[0].length && state[1] == walkers[1].length) {
            return 0;
        }
        int key = ((state[0] * 11 + state[1]) * 10 + state[2]) * 10 + state[3];
        if (leastLeft.containsKey(key)) {
            return leastLeft.get(key);
        }
        int least = NEVER;
        for (int begin = 0; begin < 4; begin++) {
            int[] next = minute(state, begin, ahead);
            if (next != null && !Arrays.equals(next, state)) {
                least = Math.min(least, 1 + leastFrom(next, ahead));
            }
        }
        leastLeft.put(key, least);
        return least;
    }

    /** The state behind a minute in which so many begin; null if they can't. */
    private static int[] minute(int[] state, int begin, int ahead) {
        int[] next = state.clone();
        for (int row = 0; row < 2; row++) {
            if ((begin >> row & 1) == 1) {
                if (state[2 + row] > 0 || state[row] == walkers[row].length) {
                    return null;
                }
                next[2 + row] = walkers[row][state[row]];
            }
            if (next[2 + row] > 0) {
                next[2 + row]--;
                next[row] += next[2 + row] == 0 ? 1 : 0;
            }
        }
        return Math.abs(next[0] - next[1]) <= ahead ? next : null;
    }

    // ---- rounds, by all rows of places in their order

    private static void rounds(Random random) {
        NameRolls x = new NameRolls();
        int n = 1 + random.nextInt(5);
        int[] go = new int[n];
        int[] come = new int[n];
        for (int i = 0; i < n; i++) {
            go[i] = random.nextInt(6);
            come[i] = random.nextInt(6);
            due("round", x.round(go[i], come[i]), i + 1);
        }
        int[] aim = new int[1 + random.nextInt(4)];
        for (int i = 0; i < aim.length; i++) {
            aim[i] = 1 + random.nextInt(15);
            due("aim", x.aim(aim[i]), i + 1);
        }
        int most = -1;
        int[] best = null;
        int codes = (int) Math.pow(n, n);
        for (int code = 0; code < codes; code++) {
            int[] order = new int[n];
            int used = 0;
            int rest = code;
            for (int i = n - 1; i >= 0; i--) {
                order[i] = rest % n;
                used |= 1 << order[i];
                rest /= n;
            }
            int least = used == (1 << n) - 1 ? leastCome(order, go, come, aim) : -1;
            if (least > most) {
                most = least;
                best = order;
            }
        }
        due("order", x.order(), most);
        for (int i = 0; i <= n; i++) {
            due("ordered", x.ordered(i), i < n ? best[i] : -1);
        }
    }

    // ---- acts, by classes of Java that are under one another as the kinds are

    private static final List<Integer> RAN = new ArrayList<>();

    private static class Anyone {
        int age;
        int number;
        int grade;

        int goes(int x) {
            RAN.add(10);
            return x + age;
        }

        int ranks(int x) {
            RAN.add(11);
            return goes(x) * 2;
        }

        int tells(int x) {
            RAN.add(12);
            return ranks(x) ^ number;
        }
    }

    private static class HeldOne extends Anyone {
        @Override
        int goes(int x) {
            RAN.add(20);
            return super.goes(x) - 1;
        }
    }

    private static final class SickOne extends HeldOne {
        @Override
        int ranks(int x) {
            RAN.add(30);
            return super.ranks(x) + grade;
        }
    }

    private static final class Doctor extends HeldOne {
        @Override
        int tells(int x) {
            RAN.add(40);
            return -super.tells(x);
        }
    }

    private static class Wanted extends HeldOne {
        @Override
        int goes(int x) {
            RAN.add(50);
            return super.goes(x + 3);
        }

        @Override
        int tells(int x) {
            RAN.add(51);
            return super.tells(x) + goes(1);
        }
    }

    private static final class Stayer extends HeldOne {
        @Override
        int ranks(int x) {
            RAN.add(60);
            return goes(x) - super.ranks(x);
        }
    }

    private static final class Child extends HeldOne {
        @Override
        int goes(int x) {
            RAN.add(70);
            return super.goes(x) * 3;
        }
    }

    private static final class Hostage extends Wanted {
        @Override
        int ranks(int x) {
            RAN.add(80);
            return super.ranks(x) ^ goes(x);
        }

        @Override
        int goes(int x) {
            RAN.add(81);
            return super.goes(x) + 5;
        }
    }

    private static void acts(Random random) {
        NameRolls x = new NameRolls();
        x.camp(0, 99);
        for (int number = 0; number < 14; number++) {
            int kind = 1 + number % 7;
            Anyone who = kind == 1 ? new HeldOne() : kind == 2 ? new SickOne() : kind == 3 ? new Doctor()
                : kind == 4 ? new Wanted() : kind == 5 ? new Stayer() : kind == 6 ? new Child() : new Hostage();
            who.age = random.nextInt(100);
            who.number = number;
            who.grade = kind == 2 ? 1 + random.nextInt(9) : 0;
            due("person", x.person(kind, 0, who.age, -1, who.grade), number);
            for (int act = 0; act < 3; act++) {
                int with = random.nextBoolean() ? random.nextInt() : random.nextInt(20);
                RAN.clear();
                int want = act == 0 ? who.goes(with) : act == 1 ? who.ranks(with) : who.tells(with);
                due("act", x.act(number, act, with), want);
                for (int i = 0; i <= RAN.size(); i++) {
                    due("trace", x.trace(i), i < RAN.size() ? RAN.get(i) : -1);
                }
            }
        }
    }

    private static int leastCome(int[] order, int[] go, int[] come, int[] aim) {
        int least = Integer.MAX_VALUE;
        for (int a : aim) {
            int gone = 0;
            int all = 0;
            for (int i : order) {
                gone += go[i];
                all += come[i];
                if (gone >= a) {
                    break;
                }
            }
            least = Math.min(least, all);
        }
        return least;
    }
}
