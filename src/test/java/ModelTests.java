import java.lang.reflect.Method;
import java.util.ArrayList;
import java.util.Arrays;
import java.util.HashMap;
import java.util.List;
import java.util.Map;
import java.util.Random;
import java.util.TreeMap;
import java.util.TreeSet;

/**
 * Runs of any calls on the class and on a second one, written once more from the document in its dearest and plainest
 * form (histories, everything tried, Java's own super calls): each answer of both must be the same.
 */
public final class ModelTests {
    private static final int NONE = -1, FULL = -2, STATE = -3, NOT = -4, CAST = -5, NO_VALUE = -2000000000;

    private static boolean in(int v, int low, int high) {
        return low <= v && v <= high;
    }

    // ---- the kinds, as Java would have them

    private static class Kind0 {
        int a;
        int n;
        int g;
        final List<Integer> ran = new ArrayList<>();

        int goes(int x) {
            ran.add(10);
            return x + a;
        }

        int ranks(int x) {
            ran.add(11);
            return goes(x) * 2;
        }

        int tells(int x) {
            ran.add(12);
            return ranks(x) ^ n;
        }
    }

    private static class Held extends Kind0 {
        @Override int goes(int x) {
            ran.add(20);
            return super.goes(x) - 1;
        }
    }

    private static class Sick extends Held {
        @Override int ranks(int x) {
            ran.add(30);
            return super.ranks(x) + g;
        }
    }

    private static class Doctor extends Held {
        @Override int tells(int x) {
            ran.add(40);
            return -super.tells(x);
        }
    }

    private static class Wanted extends Held {
        @Override int goes(int x) {
            ran.add(50);
            return super.goes(x + 3);
        }

        @Override int tells(int x) {
            ran.add(51);
            return super.tells(x) + goes(1);
        }
    }

    private static class Stayer extends Held {
        @Override int ranks(int x) {
            ran.add(60);
            return goes(x) - super.ranks(x);
        }
    }

    private static class Child extends Held {
        @Override int goes(int x) {
            ran.add(70);
            return super.goes(x) * 3;
        }
    }

    private static class Hostage extends Wanted {
        @Override int ranks(int x) {
            ran.add(80);
            return super.ranks(x) ^ goes(x);
        }

        @Override int goes(int x) {
            ran.add(81);
            return super.goes(x) + 5;
        }
    }

    private static Kind0 kindOf(int kind) {
        switch (kind) {
            case 1: return new Held();
            case 2: return new Sick();
            case 3: return new Doctor();
            case 4: return new Wanted();
            case 5: return new Stayer();
            case 6: return new Child();
            default: return new Hostage();
        }
    }

    private static Class<?> classOf(int kind) {
        return kind == 0 ? Kind0.class : kindOf(kind).getClass();
    }

    // ---- the second one

    private static final class One {
        int kind;
        int side;
        int age;
        int with;
        int came;
        int grade;
        int gradeBegan;
        int state;
        int stateBegan;
        int point;
        int there;
        final List<int[]> stays = new ArrayList<>();
    }

    private static final class Text {
        int what;
        int made;
        int from;
        String says;
    }

    private static final class Row {
        int side;
        String word;
        int age;
        int unit;
    }

    private static final class Second {
        int day;
        final List<int[]> camps = new ArrayList<>();
        final TreeMap<Integer, Integer> roads = new TreeMap<>();
        final int[] rise = new int[10];
        final List<One> ones = new ArrayList<>();
        final List<int[]> facts = new ArrayList<>();
        final List<Integer> letters = new ArrayList<>();
        final List<int[]> promises = new ArrayList<>();
        final StringBuilder tape = new StringBuilder();
        final List<Text> texts = new ArrayList<>();
        final List<Row> rows = new ArrayList<>();
        final TreeSet<Integer> flipped = new TreeSet<>();
        final List<List<Integer>> offers = List.of(new ArrayList<>(), new ArrayList<>());
        int ratio = 10;
        int[] bestSets = {NONE, NONE};
        final List<int[]> loads = new ArrayList<>();
        List<int[]> voyages = new ArrayList<>();
        final List<List<Integer>> walkers = List.of(new ArrayList<>(), new ArrayList<>());
        String begun = "";
        final List<int[]> stays = new ArrayList<>();
        List<Integer> found = new ArrayList<>();
        final List<int[]> lists = new ArrayList<>();
        final List<Integer> aims = new ArrayList<>();
        List<Integer> order = new ArrayList<>();
        List<Integer> ran = new ArrayList<>();
        final Integer[][] tables = new Integer[4][];
        final int[] sorts = {-1, -1, -1, -1};
        int blank = -1;

        // camps, roads, days

        int days(int n) {
            if (!in(n, 1, 60) || day + n > 600) {
                return NONE;
            }
            for (int i = 0; i < n; i++) {
                day++;
                for (One p : ones) {
                    if (p.state == 1 && p.there == day) {
                        come(p);
                    }
                }
                for (One p : ones) {
                    boolean rises = p.state < 2 && in(p.grade, 1, 9) && rise[p.grade] > 0;
                    if (rises && day >= p.gradeBegan + rise[p.grade]) {
                        p.grade++;
                        p.gradeBegan = day;
                        if (p.grade == 10) {
                            end(p, 8);
                        }
                    }
                }
            }
            return day;
        }

        private void come(One p) {
            p.stateBegan = day;
            p.there = -1;
            if (p.point >= 16) {
                p.state = p.point == 16 ? 2 : 3;
                p.point = -1;
            } else {
                p.state = 0;
                p.stays.add(new int[] {p.point, day, -1});
            }
        }

        private void end(One p, int state) {
            if (p.state == 0) {
                p.stays.get(p.stays.size() - 1)[2] = day;
            }
            p.state = state;
            p.stateBegan = day;
            p.point = -1;
            p.there = -1;
        }

        int camp(int side, int beds) {
            if (!in(side, 0, 1) || !in(beds, 1, 99)) {
                return NONE;
            }
            if (camps.size() == 16) {
                return FULL;
            }
            camps.add(new int[] {side, beds});
            return camps.size() - 1;
        }

        private boolean isCamp(int c) {
            return in(c, 0, camps.size() - 1);
        }

        private boolean isPoint(int p) {
            return isCamp(p) || p == 16 || p == 17;
        }

        private int sideOf(int camp) {
            return camps.get(camp)[0];
        }

        int road(int a, int b, int days) {
            if (!isPoint(a) || !isPoint(b) || a == b || !in(days, 1, 9)
                || a < 16 && b < 16 && sideOf(a) != sideOf(b)) {
                return NONE;
            }
            int key = Math.min(a, b) * 100 + Math.max(a, b);
            roads.merge(key, days, Math::min);
            return roads.get(key);
        }

        int far(int camp, int point) {
            if (!isCamp(camp) || !isPoint(point)) {
                return NONE;
            }
            if (camp == point) {
                return 0;
            }
            int[] reach = new int[18];
            Arrays.fill(reach, 99999);
            reach[camp] = 0;
            for (int i = 0; i < 18; i++) {
                for (Map.Entry<Integer, Integer> e : roads.entrySet()) {
                    int a = e.getKey() / 100;
                    int b = e.getKey() % 100;
                    int was = reach[a];
                    if (b >= 16 || sideOf(b) == sideOf(camp)) {
                        reach[a] = Math.min(reach[a], reach[b] + e.getValue());
                    }
                    if (a >= 16 || sideOf(a) == sideOf(camp)) {
                        reach[b] = Math.min(reach[b], was + e.getValue());
                    }
                }
            }
            return reach[point] < 99999 ? reach[point] : NOT;
        }

        int rise(int grade, int v) {
            if (!in(grade, 1, 9) || !in(v, 0, 99)) {
                return NONE;
            }
            int was = rise[grade];
            rise[grade] = v;
            return was;
        }

        // persons

        private One one(int person) {
            return in(person, 0, ones.size() - 1) ? ones.get(person) : null;
        }

        private boolean bedFree(int camp) {
            return ones.stream().filter(p -> p.state < 2 && p.point == camp).count() < camps.get(camp)[1];
        }

        private boolean stayFree() {
            int n = ones.stream().mapToInt(p -> p.stays.size()).sum();
            return n + ones.stream().filter(p -> p.state == 1 && p.point < 16).count() < 400;
        }

        int person(int kind, int camp, int age, int with, int grade) {
            if (!in(kind, 1, 7) || !isCamp(camp) || !in(age, 0, 99)) {
                return NONE;
            }
            if (kind == 6 ? with != -1 && (one(with) == null || one(with).side != sideOf(camp)) : with != -1) {
                return NONE;
            }
            if (kind == 2 ? !in(grade, 1, 9) : grade != 0) {
                return NONE;
            }
            if (!bedFree(camp)) {
                return STATE;
            }
            if (ones.size() == 150 || !stayFree()) {
                return FULL;
            }
            One p = new One();
            p.kind = kind;
            p.side = sideOf(camp);
            p.age = age;
            p.with = with;
            p.grade = grade;
            p.came = day;
            p.gradeBegan = day;
            p.stateBegan = day;
            p.point = camp;
            p.there = -1;
            p.stays.add(new int[] {camp, day, -1});
            ones.add(p);
            return ones.size() - 1;
        }

        int move(int person, int point) {
            One p = one(person);
            if (p == null || !isPoint(point)) {
                return NONE;
            }
            if (p.state != 0 || p.point == point || point < 16 && sideOf(point) != p.side
                || point < 16 && !bedFree(point)) {
                return STATE;
            }
            int far = far(p.point, point);
            if (far == NOT) {
                return NOT;
            }
            if (point < 16 && !stayFree()) {
                return FULL;
            }
            end(p, 1);
            p.point = point;
            p.there = day + far;
            return p.there;
        }

        int heal(int person, int grade) {
            One p = one(person);
            if (p == null || !in(grade, 0, 9)) {
                return NONE;
            }
            if (p.state != 0 || grade >= p.grade) {
                return STATE;
            }
            int was = p.grade;
            p.grade = grade;
            p.gradeBegan = day;
            return was;
        }

        int become(int person, int state) {
            One p = one(person);
            if (p == null || !in(state, 4, 8)) {
                return NONE;
            }
            String from = new String[] {"2", "34", "0", "0", "01234"}[state - 4];
            if (from.indexOf('0' + p.state) < 0) {
                return STATE;
            }
            end(p, state);
            return 1;
        }

        int of(int person, int what) {
            One p = one(person);
            if (p == null || !in(what, 0, 10)) {
                return NO_VALUE;
            }
            return new int[] {p.kind, p.side, p.state, p.point, p.age, p.with, p.grade, p.came, p.stateBegan,
                p.stays.size(), p.there}[what];
        }

        int stay(int person, int i, int what) {
            One p = one(person);
            return p == null || !in(i, 0, p.stays.size() - 1) || !in(what, 0, 2) ? NO_VALUE : p.stays.get(i)[what];
        }

        // facts, letters, promises

        int fact(int person, int sort, int v) {
            One p = one(person);
            if (p == null || !in(sort, 0, 2) || !in(v, 0, 1)) {
                return NONE;
            }
            if (sort == 0 && p.state != 0) {
                return STATE;
            }
            if (facts.size() == 300) {
                return FULL;
            }
            facts.add(new int[] {person, sort, sort == 0 ? p.grade : v, day});
            return facts.size();
        }

        int letter() {
            if (letters.size() == 60) {
                return FULL;
            }
            letters.add(day);
            return letters.size();
        }

        int known(int side, int person, int sort, int k) {
            if (!in(side, 0, 1) || one(person) == null || !in(sort, 0, 2) || !in(k, 0, 600)) {
                return NONE;
            }
            int last = 0;
            for (int[] f : facts) {
                if (f[0] != person || f[1] != sort) {
                    continue;
                }
                boolean own = (ones.get(person).side == side) == (sort != 2);
                boolean isKnown = own && f[3] <= k;
                for (int sent : letters) {
                    isKnown |= sent >= f[3] && sent + 7 <= k;
                }
                last = isKnown ? f[2] : last;
            }
            return last;
        }

        int promise(int side, int n, int last) {
            if (!in(side, 0, 1) || !in(n, 1, 99) || !in(last, day, 600)) {
                return NONE;
            }
            if (promises.size() == 40) {
                return FULL;
            }
            promises.add(new int[] {side, n, last, day});
            return promises.size() - 1;
        }

        private int done(int[] promise) {
            return (int) ones.stream().filter(p -> p.side == promise[0] && p.state == 5
                && in(p.stateBegan, promise[3], promise[2])).count();
        }

        int ofPromise(int promise, int what) {
            if (!in(promise, 0, promises.size() - 1) || !in(what, 0, 4)) {
                return NONE;
            }
            int[] p = promises.get(promise);
            return what < 3 ? p[what] : what == 3 ? done(p) : day > p[2] && done(p) < p[1] ? 1 : 0;
        }

        int broken(int side, int d) {
            if (!in(side, 0, 1) || !in(d, 0, day)) {
                return NONE;
            }
            return (int) promises.stream().filter(p -> p[0] == side && d > p[2] && done(p) < p[1]).count();
        }

        // texts

        int feed(int n, int v) {
            if (!in(n, 1, 4)) {
                return NONE;
            }
            if (tape.length() + n > 160) {
                return FULL;
            }
            for (int i = 0; i < n; i++) {
                tape.append((char) ((v >>> 8 * i) & 255));
            }
            return tape.length();
        }

        private boolean isWhat(int what) {
            return in(what, 0, 39) && what % 10 < 3;
        }

        int text(int what, int from) {
            if (!isWhat(what) || !in(from, 0, 600)) {
                return NONE;
            }
            if (texts.size() == 20) {
                return FULL;
            }
            String s = tape.toString();
            tape.setLength(0);
            int fault = faultOf(s);
            if (fault >= 0) {
                return -100 - fault;
            }
            Text t = new Text();
            t.what = what;
            t.made = day;
            t.from = from;
            t.says = s;
            texts.add(t);
            return texts.size() - 1;
        }

        int inForce(int what, int d, int k) {
            if (!isWhat(what) || !in(d, 0, 600) || !in(k, 0, 600)) {
                return NONE;
            }
            int last = NOT;
            for (int i = 0; i < texts.size(); i++) {
                Text t = texts.get(i);
                last = t.what == what && t.made <= k && t.from <= d ? i : last;
            }
            return last;
        }

        /** What a text gives, and its line. */
        private int[] giveAndLine(int text, int person, int side, int d, int k) {
            One p = ones.get(person);
            Map<Character, Integer> names = new HashMap<>();
            names.put('k', p.kind);
            names.put('g', known(side, person, 0, k));
            names.put('y', known(side, person, 1, k));
            names.put('n', known(side, person, 2, k));
            names.put('a', p.age);
            names.put('d', d > p.came ? d - p.came : 0);
            names.put('b', broken(1 - side, Math.min(d, day)));
            names.put('c', (int) ones.stream().filter(q -> together(p, q)).count());
            names.put('t', (int) ones.stream().filter(q -> together(p, q) && q.kind == 3).count());
            String[] lines = texts.get(text).says.split(";");
            for (int i = 0; i < lines.length; i++) {
                int mark = lines[i].indexOf('?');
                if (mark < 0 || work(lines[i].substring(0, mark), names) != 0) {
                    return new int[] {work(lines[i].substring(mark + 1), names), i};
                }
            }
            return new int[] {0, -1};
        }

        private static boolean together(One p, One q) {
            return p.state == 0 && q.state == 0 && p.point == q.point;
        }

        int says(int text, int person, int what, int d, int k) {
            if (!in(text, 0, texts.size() - 1) || one(person) == null || !in(d, 0, 600) || !in(k, 0, 600)
                || !List.of(0, 1, 10, 11).contains(what)) {
                return NO_VALUE;
            }
            return giveAndLine(text, person, what / 10, d, k)[what % 10];
        }

        int owed(int person, int d, int k) {
            if (one(person) == null || !in(d, 0, 600) || !in(k, 0, 600)) {
                return NONE;
            }
            for (int party = 0; party < 2; party++) {
                int text = inForce(10 * party, d, k);
                int[] given = text < 0 ? new int[2] : giveAndLine(text, person, one(person).side, d, k);
                if (given[0] != 0) {
                    return 100 * (party + 1) + given[1];
                }
            }
            return 0;
        }

        int mayStay(int person, int d, int k) {
            if (one(person) == null || !in(d, 0, 600) || !in(k, 0, 600)) {
                return NONE;
            }
            int side = one(person).side;
            int text = inForce(11, d, k) >= 0 ? inForce(11, d, k) : inForce(1, d, k);
            return known(side, person, 1, k) != 0 && text >= 0 && giveAndLine(text, person, side, d, k)[0] != 0 ? 1 : 0;
        }

        int worth(int person, int side, int d, int k) {
            if (one(person) == null || !in(side, 0, 1) || !in(d, 0, 600) || !in(k, 0, 600)) {
                return NONE;
            }
            int text = inForce(side == 0 ? 22 : 32, d, k);
            return text < 0 ? 1 : Math.min(Math.max(giveAndLine(text, person, side, d, k)[0], 0), 999);
        }

        // rows

        int row(int side, int word, int age, int unit) {
            StringBuilder s = new StringBuilder();
            for (int w = word; w > 0; w /= 28) {
                s.insert(0, (char) ('a' - 1 + w % 28));
            }
            boolean isWord = in(s.length(), 1, 5) && s.indexOf("`") < 0;
            if (!in(side, 0, 1) || !isWord || !in(age, -1, 99) || !in(unit, -1, 99)) {
                return NONE;
            }
            if (rows.size() == 100) {
                return FULL;
            }
            Row r = new Row();
            r.side = side;
            r.word = s.toString();
            r.age = age;
            r.unit = unit;
            rows.add(r);
            return rows.size() - 1;
        }

        private boolean can(int x, int y) {
            return (x == y) != flipped.contains(x * 100 + y);
        }

        int canBe(int x, int y, int is) {
            if (!in(x, 1, 26) || !in(y, 1, 26) || !in(is, 0, 1)) {
                return NONE;
            }
            boolean was = can(x, y);
            if (was != (is == 1) && !flipped.remove(x * 100 + y)) {
                flipped.add(x * 100 + y);
            }
            return was ? 1 : 0;
        }

        private int why(Row a, Row b) {
            if (a.side == 1) {
                return why(b, a);
            }
            if (a.word.length() != b.word.length()) {
                return 1;
            }
            for (int i = 0; i < a.word.length(); i++) {
                int x = a.word.charAt(i) - 'a' + 1;
                int y = b.word.charAt(i) - 'a' + 1;
                if (x < 27 && y < 27 && !can(x, y)) {
                    return 2;
                }
            }
            if (a.age >= 0 && b.age >= 0 && Math.abs(a.age - b.age) > 1) {
                return 3;
            }
            return a.unit >= 0 && b.unit >= 0 && a.unit != b.unit ? 4 : 0;
        }

        private static boolean whole(Row r) {
            return r.word.indexOf('{') < 0 && r.age >= 0 && r.unit >= 0;
        }

        int same(int a, int b, int what) {
            if (!in(a, 0, rows.size() - 1) || !in(b, 0, rows.size() - 1) || rows.get(a).side == rows.get(b).side
                || !in(what, 0, 1)) {
                return NONE;
            }
            int why = why(rows.get(a), rows.get(b));
            return what == 1 ? why : why != 0 ? 0 : whole(rows.get(a)) && whole(rows.get(b)) ? 2 : 1;
        }

        private boolean[][] joins() {
            int n = rows.size();
            boolean[][] leads = new boolean[n][n];
            for (int a = 0; a < n; a++) {
                for (int b = 0; b < n; b++) {
                    leads[a][b] = a == b || same(a, b, 0) == 2;
                }
            }
            for (int m = 0; m < n; m++) {
                for (int a = 0; a < n; a++) {
                    for (int b = 0; b < n && leads[a][m]; b++) {
                        leads[a][b] |= leads[m][b];
                    }
                }
            }
            return leads;
        }

        int joined(int row) {
            if (!in(row, 0, rows.size() - 1)) {
                return NONE;
            }
            int n = 0;
            for (boolean is : joins()[row]) {
                n += is ? 1 : 0;
            }
            return n;
        }

        int clash(int what) {
            if (!in(what, 0, 2)) {
                return NONE;
            }
            boolean[][] leads = joins();
            int n = 0;
            for (int a = 0; a < rows.size(); a++) {
                for (int b = a + 1; b < rows.size(); b++) {
                    Row x = rows.get(a);
                    Row y = rows.get(b);
                    boolean apart = x.side != y.side ? same(a, b, 0) == 0
                        : x.age >= 0 && y.age >= 0 && Math.abs(x.age - y.age) > 2
                        || x.unit >= 0 && y.unit >= 0 && x.unit != y.unit;
                    if (leads[a][b] && apart) {
                        if (what > 0) {
                            return what == 1 ? a : b;
                        }
                        n++;
                    }
                }
            }
            return what == 0 ? n : NOT;
        }

        int list(int side, int table, int i, int n) {
            if (!in(side, 0, 1) || !in(table, 0, 3) || !in(n, 1, 20)) {
                return NONE;
            }
            if (sorts[table] != 1) {
                return CAST;
            }
            Integer[] from = tables[table];
            for (int come = 0; come < n; come++) {
                long at = i + 3L * come;
                if (at < 0 || at + 2 >= from.length || rows.size() == 100) {
                    return come;
                }
                int age = from[(int) at];
                int unit = from[(int) at + 1];
                int letter = from[(int) at + 2];
                if (age != blank && !in(age, 0, 99) || unit != blank && !in(unit, 0, 99) || !in(letter, 1, 27)) {
                    return come;
                }
                row(side, letter, age == blank ? -1 : age, unit == blank ? -1 : unit);
            }
            return n;
        }

        // exchanges

        int offer(int person) {
            One p = one(person);
            if (p == null || offers.get(p.side).contains(person)) {
                return NONE;
            }
            if (p.state != 0) {
                return STATE;
            }
            if (offers.get(p.side).size() == 7) {
                return FULL;
            }
            offers.get(p.side).add(person);
            return offers.get(p.side).size();
        }

        int ratio(int v) {
            if (!in(v, 1, 99)) {
                return NONE;
            }
            int was = ratio;
            ratio = v;
            return was;
        }

        private List<Integer> those(int side, int set) {
            List<Integer> go = new ArrayList<>();
            for (int i = 0; i < offers.get(side).size(); i++) {
                if ((set & 1 << i) != 0) {
                    go.add(offers.get(side).get(i));
                }
            }
            return go;
        }

        int judge(int set0, int set1) {
            if (!in(set0, 0, (1 << offers.get(0).size()) - 1) || !in(set1, 0, (1 << offers.get(1).size()) - 1)) {
                return NONE;
            }
            List<Integer> all = those(0, set0);
            all.addAll(those(1, set1));
            if (all.stream().anyMatch(p -> ones.get(p).state != 0)) {
                return 1;
            }
            if (all.stream().anyMatch(p -> mayStay(p, day, day) == 1)) {
                return 2;
            }
            for (int side = 0; side < 2; side++) {
                int left = 0;
                for (int p : all) {
                    left += (ones.get(p).side == side ? -1 : 1) * worth(p, side, day, day);
                }
                if (left < 0) {
                    return 3 + side;
                }
            }
            for (int side = 0; side < 2; side++) {
                for (int child : offers.get(side)) {
                    int with = ones.get(child).with;
                    if (offers.get(side).contains(with) && all.contains(child) != all.contains(with)) {
                        return 5;
                    }
                }
            }
            return lackDoctors(all) ? 6 : 0;
        }

        private boolean lackDoctors(List<Integer> go) {
            for (int c = 0; c < camps.size(); c++) {
                int graded = 0;
                int were = 0;
                int are = 0;
                for (int i = 0; i < ones.size(); i++) {
                    One p = ones.get(i);
                    if (p.state == 0 && p.point == c) {
                        graded += p.grade > 0 && !go.contains(i) ? 1 : 0;
                        were += p.kind == 3 ? 1 : 0;
                        are += p.kind == 3 && !go.contains(i) ? 1 : 0;
                    }
                }
                int wanted = graded / ratio + (graded % ratio > 0 ? 1 : 0);
                if (are < wanted && are < were) {
                    return true;
                }
            }
            return false;
        }

        int best() {
            if (offers.get(0).isEmpty() || offers.get(1).isEmpty()) {
                return STATE;
            }
            int[] top = null;
            for (int a = 0; a < 1 << offers.get(0).size(); a++) {
                for (int b = 0; b < 1 << offers.get(1).size(); b++) {
                    int na = Integer.bitCount(a);
                    int nb = Integer.bitCount(b);
                    int[] this1 = {-na - nb, Math.abs(na - nb), a, b};
                    if ((top == null || Arrays.compare(this1, top) < 0) && judge(a, b) == 0) {
                        top = this1;
                    }
                }
            }
            offers.get(0).clear();
            offers.get(1).clear();
            bestSets = new int[] {top[2], top[3]};
            return -top[0];
        }

        int bestOf(int side) {
            return in(side, 0, 1) ? bestSets[side] : NONE;
        }

        // the ship, the bridge

        int load(int camp, int stretchers, int feet) {
            if (!isCamp(camp) || !in(stretchers, 0, 99) || !in(feet, 0, 99) || stretchers + feet < 1
                || loads.stream().anyMatch(l -> l[0] == camp)) {
                return NONE;
            }
            if (far(camp, 16) == NOT) {
                return NOT;
            }
            if (loads.size() == 6) {
                return FULL;
            }
            loads.add(new int[] {camp, stretchers, feet});
            return loads.size();
        }

        int sail(int stretchers, int feet, int turn) {
            if (!in(stretchers, 0, 999) || !in(feet, 0, 999) || !in(turn, 1, 30)) {
                return NONE;
            }
            if (loads.isEmpty()) {
                return STATE;
            }
            for (int[] l : loads) {
                if (l[1] > stretchers || l[2] > feet || far(l[0], 16) < 0) {
                    return NOT;
                }
            }
            List<List<int[]>> plans = new ArrayList<>();
            List<Integer> sums = new ArrayList<>();
            plan((1 << loads.size()) - 1, day, 0, new ArrayList<>(), new int[] {stretchers, feet, turn}, plans, sums);
            int least = sums.stream().mapToInt(s -> s).min().getAsInt();
            voyages = plans.get(sums.indexOf(least));
            loads.clear();
            return least;
        }

        /** All plans whatever, in the order of their first sets, then of their next ones. */
        private void plan(int rest, int free, int sum, List<int[]> voyagesSoFar, int[] ship, List<List<int[]>> plans,
                List<Integer> sums) {
            if (rest == 0) {
                plans.add(new ArrayList<>(voyagesSoFar));
                sums.add(sum);
                return;
            }
            for (int set = 1; set <= rest; set++) {
                int lying = 0;
                int going = 0;
                int ready = free;
                for (int i = 0; i < loads.size(); i++) {
                    if ((set & 1 << i) != 0) {
                        lying += loads.get(i)[1];
                        going += loads.get(i)[2];
                        ready = Math.max(ready, day + far(loads.get(i)[0], 16));
                    }
                }
                if ((set | rest) == rest && lying <= ship[0] && going <= ship[1]) {
                    voyagesSoFar.add(new int[] {set, ready});
                    plan(rest ^ set, ready + ship[2], sum + ready * (lying + going), voyagesSoFar, ship, plans, sums);
                    voyagesSoFar.remove(voyagesSoFar.size() - 1);
                }
            }
        }

        int voyage(int i, int what) {
            return in(i, 0, voyages.size() - 1) && in(what, 0, 1) ? voyages.get(i)[what] : NONE;
        }

        int walker(int row, int minutes) {
            if (!in(row, 0, 1) || !in(minutes, 1, 9)) {
                return NONE;
            }
            if (walkers.get(row).size() == 10) {
                return FULL;
            }
            walkers.get(row).add(minutes);
            return walkers.get(row).size();
        }

        int bridge(int ahead) {
            if (!in(ahead, 1, 3)) {
                return NONE;
            }
            if (walkers.get(0).isEmpty() || walkers.get(1).isEmpty()) {
                return STATE;
            }
            // Of how many are over, and the minutes that those on the bridge still have: the first way to it.
            Map<List<Integer>, String> ways = new HashMap<>();
            ways.put(List.of(0, 0, 0, 0), "");
            TreeSet<String> seen = new TreeSet<>();
            List<Integer> end = List.of(walkers.get(0).size(), walkers.get(1).size(), 0, 0);
            while (!ways.isEmpty() && !ways.containsKey(end)) {
                Map<List<Integer>, String> next = new HashMap<>();
                for (Map.Entry<List<Integer>, String> e : ways.entrySet()) {
                    for (char c : "3120".toCharArray()) {
                        List<Integer> to = minute(e.getKey(), c - '0', ahead);
                        if (to != null && !seen.contains(to.toString())) {
                            next.merge(to, e.getValue() + (char) ('a' + "3120".indexOf(c)),
                                (s, t) -> s.compareTo(t) < 0 ? s : t);
                        }
                    }
                }
                next.keySet().forEach(k -> seen.add(k.toString()));
                ways = next;
            }
            if (ways.isEmpty()) {
                return NOT;
            }
            begun = ways.get(end);
            walkers.get(0).clear();
            walkers.get(1).clear();
            return begun.length();
        }

        /** What comes of a minute in which some begin; null if it can't be. */
        private List<Integer> minute(List<Integer> at, int begin, int ahead) {
            int[] now = at.stream().mapToInt(v -> v).toArray();
            for (int row = 0; row < 2; row++) {
                if ((begin & 1 << row) != 0) {
                    if (now[2 + row] > 0 || now[row] == walkers.get(row).size()) {
                        return null;
                    }
                    now[2 + row] = walkers.get(row).get(now[row]);
                }
                if (now[2 + row] > 0) {
                    now[2 + row]--;
                    now[row] += now[2 + row] == 0 ? 1 : 0;
                }
            }
            return Math.abs(now[0] - now[1]) > ahead ? null : List.of(now[0], now[1], now[2], now[3]);
        }

        int began(int m) {
            return in(m, 0, begun.length() - 1) ? "3120".charAt(begun.charAt(m) - 'a') - '0' : NONE;
        }

        // one sought, rounds

        int sought(int camp, int a, int b) {
            if (!isCamp(camp) || !in(a, 0, 600) || !in(b, a, 600)) {
                return NONE;
            }
            if (stays.size() == 5) {
                return FULL;
            }
            stays.add(new int[] {camp, a, b});
            return stays.size();
        }

        int find(int side) {
            if (!in(side, 0, 1)) {
                return NONE;
            }
            if (stays.isEmpty()) {
                return STATE;
            }
            found = new ArrayList<>();
            for (int i = 0; i < ones.size(); i++) {
                One p = ones.get(i);
                boolean could = p.side == side && p.state <= 4;
                for (int[] told : stays) {
                    for (int d = told[1]; d <= Math.min(told[2], day) && could; d++) {
                        for (int[] own : p.stays) {
                            could &= d < own[1] || own[2] >= 0 && d > own[2] || own[0] == told[0];
                        }
                    }
                }
                if (could) {
                    found.add(i);
                }
            }
            return found.size();
        }

        int found(int i) {
            if (i == -1) {
                stays.clear();
                return 1;
            }
            return in(i, 0, found.size() - 1) ? found.get(i) : NONE;
        }

        int round(int go, int come) {
            if (!in(go, 0, 99) || !in(come, 0, 99)) {
                return NONE;
            }
            if (lists.size() == 6) {
                return FULL;
            }
            lists.add(new int[] {go, come});
            return lists.size();
        }

        int aim(int v) {
            if (!in(v, 1, 999)) {
                return NONE;
            }
            if (aims.size() == 4) {
                return FULL;
            }
            aims.add(v);
            return aims.size();
        }

        int order() {
            if (lists.isEmpty() || aims.isEmpty()) {
                return STATE;
            }
            int top = -1;
            int n = lists.size();
            int all = (int) Math.pow(n, n);
            for (int code = 0; code < all; code++) {
                List<Integer> places = new ArrayList<>();
                for (int c = code, i = 0; i < n; i++, c /= n) {
                    places.add(0, c % n);
                }
                if (places.stream().distinct().count() == n && leastCome(places) > top) {
                    top = leastCome(places);
                    order = places;
                }
            }
            lists.clear();
            aims.clear();
            return top;
        }

        private int leastCome(List<Integer> places) {
            int least = 99999;
            for (int aim : aims) {
                int gone = 0;
                int come = 0;
                for (int p : places) {
                    if (gone < aim) {
                        gone += lists.get(p)[0];
                        come += lists.get(p)[1];
                    }
                }
                least = Math.min(least, come);
            }
            return least;
        }

        int ordered(int i) {
            return in(i, 0, order.size() - 1) ? order.get(i) : NONE;
        }

        // acts, tables

        int act(int person, int act, int x) {
            One p = one(person);
            if (p == null || !in(act, 0, 2)) {
                return NO_VALUE;
            }
            Kind0 k = kindOf(p.kind);
            k.a = p.age;
            k.n = person;
            k.g = p.grade;
            int given = act == 0 ? k.goes(x) : act == 1 ? k.ranks(x) : k.tells(x);
            ran = k.ran;
            return given;
        }

        int trace(int i) {
            return in(i, 0, Math.min(24, ran.size()) - 1) ? ran.get(i) : NONE;
        }

        int taken(int person, int k) {
            One p = one(person);
            if (p == null || !in(k, 0, 7)) {
                return NONE;
            }
            return classOf(k).isInstance(kindOf(p.kind)) ? p.kind : CAST;
        }

        int table(int table, int sort, int n) {
            if (!in(table, 0, 3) || !in(sort, -1, 1) || sort >= 0 && !in(n, 0, 60)) {
                return NONE;
            }
            sorts[table] = sort;
            tables[table] = new Integer[sort < 0 ? 0 : n];
            Arrays.fill(tables[table], 0);
            return 1;
        }

        int item(int table, int i, int v) {
            if (!in(table, 0, 3)) {
                return NONE;
            }
            if (sorts[table] < 0) {
                return CAST;
            }
            if (!in(i, 0, tables[table].length - 1)) {
                return NONE;
            }
            int bits = sorts[table] == 0 ? 24 : 16;
            tables[table][i] = v << bits >> bits;
            return 1;
        }

        int read(int table, int i) {
            boolean is = in(table, 0, 3) && sorts[table] >= 0 && in(i, 0, tables[table].length - 1);
            return is ? tables[table][i] : NO_VALUE;
        }

        int blank(int v) {
            int was = blank;
            blank = v;
            return was;
        }

        int count(int what) {
            if (!in(what, 0, 18)) {
                return NONE;
            }
            if (what > 9) {
                return (int) ones.stream().filter(p -> p.state == what - 10).count();
            }
            int begunStays = ones.stream().mapToInt(p -> p.stays.size()).sum();
            return new int[] {camps.size(), ones.size(), day, facts.size(), letters.size(), promises.size(),
                texts.size(), rows.size(), begunStays, tape.length()}[what];
        }
    }

    // ---- the language of texts: a pattern for what is flat, brackets taken away from within

    private static final String OPERAND = "!*(?:[0-9]{1,4}|[kgynadbct])";

    /** Whether some bytes behind it make a text of it: brackets are counted, the rest are flat pieces. */
    private static boolean goesOn(String s) {
        List<String> pieces = new ArrayList<>(List.of(""));
        List<Integer> outside = new ArrayList<>(List.of(0));
        for (int i = 0; i < s.length(); i++) {
            char c = s.charAt(i);
            int last = pieces.size() - 1;
            String piece = pieces.get(last);
            if (c == '(') {
                if (!isFlat(piece + "k", last == 0)) {
                    return false;
                }
                outside.add(outside.get(last) + marksBehind(piece) + 1);
                pieces.add("");
                if (outside.get(last + 1) > 8) {
                    return false;
                }
            } else if (c == ')') {
                if (last == 0 || !isFlat(piece, false) || !isWholeFlat(piece)) {
                    return false;
                }
                pieces.remove(last);
                outside.remove(last);
                // What stood in brackets is like a name: no digit may follow it.
                pieces.set(last - 1, pieces.get(last - 1) + "k");
            } else {
                pieces.set(last, piece + c);
                String now = pieces.get(last);
                if (!isFlat(now, last == 0) || outside.get(last) + marksBehind(now) > 8) {
                    return false;
                }
            }
        }
        return true;
    }

    private static int marksBehind(String piece) {
        return piece.length() - piece.replaceAll("!+$", "").length();
    }

    private static boolean isEnded(String s) {
        int open = 0;
        for (char c : s.toCharArray()) {
            open += c == '(' ? 1 : c == ')' ? -1 : 0;
        }
        return open == 0 && !s.isEmpty() && "kgynadbct0123456789)".indexOf(s.charAt(s.length() - 1)) >= 0;
    }

    private static boolean isWholeFlat(String piece) {
        return !piece.isEmpty() && "kgynadbct0123456789".indexOf(piece.charAt(piece.length() - 1)) >= 0;
    }

    /** A beginning of lines (or of one E) without brackets. */
    private static boolean isFlat(String piece, boolean isOutermost) {
        if (!isOutermost && (piece.indexOf(';') >= 0 || piece.indexOf('?') >= 0)) {
            return false;
        }
        String[] lines = piece.split(";", -1);
        for (int i = 0; i < lines.length; i++) {
            String[] parts = lines[i].split("\\?", -1);
            for (int j = 0; j < parts.length; j++) {
                boolean mayBreakOff = i == lines.length - 1 && j == parts.length - 1;
                String part = mayBreakOff && !isWholeFlat(parts[j]) ? parts[j] + "k" : parts[j];
                if (j > 1 || !isExpression(part)) {
                    return false;
                }
            }
        }
        return true;
    }

    private static boolean isExpression(String part) {
        String sum = OPERAND + "(?:[-+*/]" + OPERAND + ")*";
        for (String compared : part.split("[|&]", -1)) {
            if (!compared.matches(sum + "(?:[<=>]" + sum + ")?")) {
                return false;
            }
        }
        return true;
    }

    private static int faultOf(String s) {
        for (int i = 0; i < s.length(); i++) {
            if (!goesOn(s.substring(0, i + 1))) {
                return i;
            }
        }
        return isEnded(s) ? -1 : s.length();
    }

    // ---- the value of an E: cut at the last sign of the least rank that stands outside all brackets

    private static int work(String s, Map<Character, Integer> names) {
        for (String signs : List.of("|", "&", "<=>", "+-", "*/")) {
            int open = 0;
            for (int i = s.length() - 1; i > 0; i--) {
                char c = s.charAt(i);
                open += c == ')' ? 1 : c == '(' ? -1 : 0;
                if (open == 0 && signs.indexOf(c) >= 0) {
                    return join(c, work(s.substring(0, i), names), work(s.substring(i + 1), names));
                }
            }
        }
        if (s.charAt(0) == '!') {
            return work(s.substring(1), names) == 0 ? 1 : 0;
        }
        if (s.charAt(0) == '(') {
            return work(s.substring(1, s.length() - 1), names);
        }
        return names.containsKey(s.charAt(0)) ? names.get(s.charAt(0)) : Integer.parseInt(s);
    }

    private static int join(char c, int a, int b) {
        switch (c) {
            case '|': return a != 0 || b != 0 ? 1 : 0;
            case '&': return a != 0 && b != 0 ? 1 : 0;
            case '<': return a < b ? 1 : 0;
            case '=': return a == b ? 1 : 0;
            case '>': return a > b ? 1 : 0;
            case '+': return a + b;
            case '-': return a - b;
            case '*': return a * b;
            default: return b == 0 ? 0 : a / b;
        }
    }

    // ---- runs

    private static final int RUNS = 500, CALLS = 500;
    private static final Random RANDOM = new Random(57);
    private static final Map<String, String> ARGUMENTS = new TreeMap<>();
    private static final Map<String, Integer> ANSWERED = new TreeMap<>();

    /** Of each call what its arguments are: two numbers from least to greatest, or a word. */
    private static void tellArguments() {
        String[] told = {"days 1-9", "camp side 1-5", "road point point 1-9", "far camp point", "rise 1-9 0-6",
            "person kind camp 0-99 with grade", "move person point", "heal person 0-9", "become person 4-8",
            "of person 0-10", "stay person 0-2 0-2", "fact person 0-2 0-1", "letter", "known side person 0-2 0-60",
            "promise side 1-2 0-60", "ofPromise 0-8 0-4", "broken side 0-60", "feed 1-4 x", "text purpose 0-30",
            "inForce purpose 0-40 0-40", "says 0-9 person says 0-40 0-40", "owed person 0-40 0-40",
            "mayStay person 0-40 0-40", "worth person side 0-40 0-40", "row side word age unit", "canBe 1-4 1-4 0-1",
            "same row row 0-1", "joined row", "clash 0-2", "list side 0-3 0-20 1-4", "offer person", "ratio 1-3",
            "judge set0 set1", "best", "bestOf side", "load camp 0-9 0-9", "sail 9-30 9-30 1-9", "voyage 0-3 0-1",
            "walker 0-1 1-4", "bridge 1-3", "began 0-12", "sought camp 0-30 0-60", "find side", "found -1-9",
            "round 0-99 0-99", "aim 1-250", "order", "ordered 0-5", "act person 0-2 x", "trace 0-16",
            "taken person 0-7", "table 0-3 -1-1 0-30", "item 0-3 0-20 item", "read 0-3 0-20", "blank blank",
            "count 0-18"};
        for (String t : told) {
            int end = t.indexOf(' ');
            ARGUMENTS.put(end < 0 ? t : t.substring(0, end), end < 0 ? "" : t.substring(end + 1));
        }
    }

    private static int any(int low, int high) {
        return low + RANDOM.nextInt(high - low + 1);
    }

    private static int argument(String sort, Second model) {
        if (RANDOM.nextInt(60) == 0) {
            int[] edges = {-1, 0, 1, -2, 2, 7, 8, 9, 10, 16, 17, 18, 19, 20, 39, 40, 60, 61, 99, 100, 149, 150, 600,
                601, 999, 1000, Integer.MIN_VALUE, Integer.MAX_VALUE};
            return edges[RANDOM.nextInt(edges.length)];
        }
        switch (sort) {
            case "side": return any(0, 1);
            case "camp": return any(0, Math.max(0, model.camps.size() - 1));
            case "point": return any(0, 3) > 0 ? any(0, Math.max(0, model.camps.size() - 1)) : any(16, 17);
            case "person": return Math.max(0, model.ones.size() - any(0, any(0, 1) * model.ones.size() + 6));
            case "kind": return any(0, 2) == 0 ? any(2, 3) : any(1, 7);
            case "purpose": return any(0, 3) * 10 + any(0, 2);
            case "says": return any(0, 1) * 10 + any(0, 1);
            case "word": return any(0, 2) > 0 ? any(1, 3)
                : any(0, 4) == 0 ? any(0, 18000000) : 28 * any(1, 3) + any(1, 27);
            case "age": return any(0, 7) == 0 ? -1 : any(20, 24);
            case "unit": return any(0, 7) == 0 ? -1 : any(3, 4);
            case "row": return any(0, Math.max(0, model.rows.size() - 1));
            case "set0": return any(0, (1 << model.offers.get(0).size()) - 1);
            case "set1": return any(0, (1 << model.offers.get(1).size()) - 1);
            case "item": return any(0, 5) == 0 ? any(-70000, 70000) : any(0, 27);
            case "blank": return any(0, 9) == 0 ? any(-40000, 40000) : any(-1, 9);
            case "x": return any(0, 3) == 0 ? RANDOM.nextInt() : any(-9, 99);
            default: break;
        }
        int dash = sort.indexOf('-', 1);
        return any(Integer.parseInt(sort.substring(0, dash)), Integer.parseInt(sort.substring(dash + 1)));
    }

    private static int[] arguments(String name, Second model) {
        String told = ARGUMENTS.get(name);
        String[] sorts = told.isEmpty() ? new String[0] : told.split(" ");
        int[] made = new int[sorts.length];
        for (int i = 0; i < sorts.length; i++) {
            String sort = sorts[i];
            if (sort.equals("with")) {
                made[i] = made[0] == 6 ? any(-1, model.ones.size() - 1) : any(0, 20) == 0 ? 0 : -1;
            } else if (sort.equals("grade")) {
                made[i] = made[0] == 2 ? any(1, 9) : any(0, 20) == 0 ? 1 : 0;
            } else {
                made[i] = argument(sort, model);
            }
        }
        return made;
    }

    private static final String[] WHOLE = {"k", "1", "0", "g", "y", "n", "a", "d", "b", "c", "t", "g>3", "k=2?g*10;1",
        "y&a<30", "n|!y", "d/3-b", "c-t*2", "(k+g)*(a-20)", "b?7;d>9?8", "!(k=3)&c>1", "k=4|k=7?5;k=3?3;2",
        "9999*9999*a"};

    /** Some bytes: a whole text, one with a fault, or no more than a few. */
    private static String bytes() {
        String s = WHOLE[RANDOM.nextInt(WHOLE.length)];
        if (any(0, 3) == 0) {
            s = s + "|&+-*/<=>?;".charAt(any(0, 10)) + WHOLE[RANDOM.nextInt(WHOLE.length)];
        }
        if (any(0, 3) == 0) {
            s = any(0, 2) > 0 ? "(!!((!!(!(!".substring(any(0, 10)) + s + "))))".substring(any(0, 3)) : s + s + s;
        }
        if (any(0, 5) == 0) {
            int at = any(0, s.length());
            s = s.substring(0, at) + "kg1(!)?;|&<+*x".charAt(any(0, 13)) + s.substring(at);
        }
        return s;
    }

    private static int call(Object x, Method m, int[] arguments) {
        try {
            return (Integer) m.invoke(x, Arrays.stream(arguments).boxed().toArray());
        } catch (ReflectiveOperationException e) {
            throw new IllegalStateException(m.getName() + Arrays.toString(arguments), e);
        }
    }

    private static Map<String, Method> methodsOf(Class<?> c) {
        Map<String, Method> methods = new TreeMap<>();
        for (Method m : c.getDeclaredMethods()) {
            if (ARGUMENTS.containsKey(m.getName()) && m.getReturnType() == int.class) {
                m.setAccessible(true);
                methods.put(m.getName(), m);
            }
        }
        return methods;
    }

    public static void main(String[] args) {
        tellArguments();
        Map<String, Method> real = methodsOf(NameRolls.class);
        Map<String, Method> second = methodsOf(Second.class);
        if (real.size() != 56 || !real.keySet().equals(second.keySet())) {
            System.out.println("not the same calls: " + real.keySet() + ", " + second.keySet());
            System.exit(1);
        }
        int wrong = 0;
        for (int i = 0; i < RUNS && wrong < 10; i++) {
            wrong += run(i, real, second);
        }
        for (String name : real.keySet()) {
            if (ANSWERED.getOrDefault(name, 0) < RUNS / 4) {
                wrong++;
                System.out.println(name + " was refused nearly always");
            }
        }
        System.out.println(wrong == 0 ? "both answer the same" : wrong + " runs are not the same");
        if (wrong != 0) {
            System.exit(1);
        }
    }

    /** A call by its name, and its arguments. */
    private record Call(String name, int[] arguments) { }

    /** The bytes of a text by one to four, and mostly text() behind them. */
    private static void feedAll(List<Call> waiting, Second model) {
        String s = bytes();
        for (int at = 0; at < s.length();) {
            int n = Math.min(any(1, 4), s.length() - at);
            int v = n < 4 ? RANDOM.nextInt() << 8 * n : 0;
            for (int i = 0; i < n; i++) {
                v |= s.charAt(at + i) << 8 * i;
            }
            waiting.add(new Call("feed", new int[] {n, v}));
            at += n;
        }
        if (any(0, 9) > 0) {
            waiting.add(new Call("text", arguments("text", model)));
        }
    }

    private static List<Call> beginning(Second model) {
        List<Call> calls = new ArrayList<>();
        for (int i = any(1, 7); i > 0; i--) {
            calls.add(new Call("camp", new int[] {any(0, 1), any(0, 2) == 0 ? any(1, 4) : any(5, 30)}));
        }
        for (int i = any(2, 9); i > 0; i--) {
            calls.add(new Call("road", new int[] {any(0, 4), any(0, 3) > 0 ? any(16, 17) : any(0, 4), any(1, 9)}));
        }
        return calls;
    }

    /** What often comes in a run. */
    private static final String[] THEMES = {
        "person person person offer offer offer offer judge judge judge best bestOf fact move days feed heal ratio",
        "person person fact fact fact letter days feed feed says says owed mayStay mayStay worth known inForce inForce",
        "row row row row same same joined clash canBe table item item list list read blank clash clash joined",
        "person person days move move move heal become become of of stay stay count rise far promise broken ofPromise",
        "walker walker walker walker walker bridge began began load load load sail voyage voyage camp road days move",
        "person days move move move sought sought find find found found round round aim order ordered ordered",
        "person act act act trace trace taken taken table item item item item list read read blank row days heal rise",
        "person person move days days become become become promise promise ofPromise broken broken feed says owed "
            + "inForce"};

    /** A run in which some of the calls come more often than the others; 1 if an answer was not the same. */
    private static int run(int number, Map<String, Method> real, Map<String, Method> second) {
        NameRolls x = new NameRolls();
        Second model = new Second();
        List<String> names = new ArrayList<>(real.keySet());
        String[] often = THEMES[number % THEMES.length].split(" ");
        List<Call> waiting = beginning(model);
        StringBuilder said = new StringBuilder();
        for (int i = 0; i < CALLS; i++) {
            if (waiting.isEmpty()) {
                String name = any(0, 3) > 0 ? often[any(0, often.length - 1)] : names.get(any(0, names.size() - 1));
                if (name.equals("feed") || name.equals("text") && any(0, 9) > 0) {
                    feedAll(waiting, model);
                } else {
                    waiting.add(new Call(name, arguments(name, model)));
                }
            }
            Call c = waiting.remove(0);
            int got = call(x, real.get(c.name), c.arguments);
            int due = call(model, second.get(c.name), c.arguments);
            said.append(c.name).append(Arrays.toString(c.arguments)).append(' ').append(got).append('\n');
            ANSWERED.merge(c.name, due < CAST || due >= 0 ? 1 : 0, Integer::sum);
            if (got != due) {
                System.out.println("run " + number + ", due is " + due + " at the end of:\n" + said);
                return 1;
            }
        }
        return 0;
    }
}
