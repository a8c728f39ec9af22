import java.util.ArrayList;
import java.util.List;
import java.util.function.Supplier;
import java.util.function.ToIntFunction;

/**
 * Promise by promise each boundary that the document names: the least and the greatest number that is taken, the next
 * one beyond, what is empty, what is full, ints that wrap; and of each refusal also that it changed nothing.
 */
public final class EdgeTests {
    private static final int NONE = NameRolls.NONE, FULL = NameRolls.FULL, STATE = NameRolls.STATE,
        NOT = NameRolls.NOT, CAST = NameRolls.CAST, NO_VALUE = NameRolls.NO_VALUE;
    private static final int LEAST = Integer.MIN_VALUE, MOST = Integer.MAX_VALUE;
    private static int wrong = 0;
    private static int asked = 0;

    /** A call by its name. */
    private record Ask(String name, ToIntFunction<NameRolls> call) { }

    private static void due(int promise, String what, int got, int want) {
        asked++;
        if (got != want) {
            wrong++;
            System.out.println("promise " + promise + ": " + what + " answered " + got + ", due is " + want);
        }
    }

    /** The call answers so, and behind it all that can be asked is as without it. */
    private static void refused(int promise, int want, String what, Supplier<NameRolls> make,
            ToIntFunction<NameRolls> call) {
        refused(promise, want, what, make, call, ALL);
    }

    private static void refused(int promise, int want, String what, Supplier<NameRolls> make,
            ToIntFunction<NameRolls> call, List<Ask> asks) {
        NameRolls with = make.get();
        NameRolls without = make.get();
        due(promise, what, call.applyAsInt(with), want);
        for (Ask a : asks) {
            due(promise, a.name + " behind the refused " + what, a.call.applyAsInt(with),
                a.call.applyAsInt(without));
        }
    }

    // ---- what is asked of an object: first what changes nothing, then what shows the rest

    private static final List<Ask> ALL = new ArrayList<>();
    private static final List<Ask> FEW = new ArrayList<>();

    private static void ask(String name, ToIntFunction<NameRolls> call) {
        ALL.add(new Ask(name, call));
    }

    private static void gather() {
        gatherCounts();
        gatherPersons();
        gatherTexts();
        gatherRows();
        gatherLatest();
        FEW.addAll(ALL.subList(0, 19));
        gatherLists();
        gatherPlans();
        gatherDays();
        FEW.add(new Ask("letter()", x -> x.letter()));
        FEW.add(new Ask("feed(1, '1')", x -> x.feed(1, '1')));
        FEW.add(new Ask("days(1)", x -> x.days(1)));
        FEW.add(new Ask("count(8)", x -> x.count(8)));
        FEW.add(new Ask("count(10)", x -> x.count(10)));
        FEW.add(new Ask("count(11)", x -> x.count(11)));
        FEW.add(new Ask("text(0, 0)", x -> x.text(0, 0)));
        FEW.add(new Ask("best()", x -> x.best()));
        FEW.add(new Ask("bestOf(0)", x -> x.bestOf(0)));
        FEW.add(new Ask("sail(999, 999, 3)", x -> x.sail(999, 999, 3)));
        FEW.add(new Ask("bridge(3)", x -> x.bridge(3)));
        FEW.add(new Ask("find(0)", x -> x.find(0)));
        FEW.add(new Ask("order()", x -> x.order()));
    }

    private static void gatherCounts() {
        for (int w = 0; w <= 18; w++) {
            int what = w;
            ask("count(" + w + ")", x -> x.count(what));
        }
        for (int p = 0; p < 4; p++) {
            int camp = p;
            ask("far(" + p + ", 16)", x -> x.far(camp, 16));
            ask("far(" + p + ", 0)", x -> x.far(camp, 0));
        }
        ask("far(0, 17)", x -> x.far(0, 17));
    }

    private static void gatherPersons() {
        int[] persons = {0, 1, 3, 8, 9, 15};
        for (int p : persons) {
            for (int w = 1; w <= 10; w++) {
                int what = w;
                ask("of(" + p + ", " + w + ")", x -> x.of(p, what));
            }
            ask("stay(" + p + ", 0, 2)", x -> x.stay(p, 0, 2));
        }
        for (int s = 0; s < 6; s++) {
            int side = s / 3;
            int sort = s % 3;
            ask("known(" + side + ", 1, " + sort + ", 600)", x -> x.known(side, 1, sort, 600));
            ask("known(" + side + ", 4, " + sort + ", 600)", x -> x.known(side, 4, sort, 600));
        }
        for (int w = 0; w < 5; w++) {
            int what = w;
            ask("ofPromise(0, " + w + ")", x -> x.ofPromise(0, what));
        }
        ask("ofPromise(2, 0)", x -> x.ofPromise(2, 0));
        ask("broken(1, 11)", x -> x.broken(1, 11));
    }

    private static void gatherTexts() {
        int[] purposes = {0, 1, 2, 10, 11, 22, 32};
        for (int what : purposes) {
            ask("inForce(" + what + ", 600, 600)", x -> x.inForce(what, 600, 600));
        }
        ask("says(0, 1, 0, 30, 30)", x -> x.says(0, 1, 0, 30, 30));
        ask("owed(1, 30, 30)", x -> x.owed(1, 30, 30));
        ask("mayStay(4, 30, 30)", x -> x.mayStay(4, 30, 30));
        ask("worth(1, 0, 30, 30)", x -> x.worth(1, 0, 30, 30));
    }

    private static void gatherRows() {
        ask("same(0, 1, 0)", x -> x.same(0, 1, 0));
        ask("same(0, 2, 1)", x -> x.same(0, 2, 1));
        ask("joined(0)", x -> x.joined(0));
        ask("clash(0)", x -> x.clash(0));
        for (int t = 0; t < 4; t++) {
            int table = t;
            ask("read(" + t + ", 0)", x -> x.read(table, 0));
            ask("read(" + t + ", 4)", x -> x.read(table, 4));
        }
    }

    private static void gatherLatest() {
        ask("bestOf(0)", x -> x.bestOf(0));
        ask("bestOf(1)", x -> x.bestOf(1));
        for (int i = 0; i < 3; i++) {
            int n = i;
            ask("voyage(" + i + ", 0)", x -> x.voyage(n, 0));
            ask("voyage(" + i + ", 1)", x -> x.voyage(n, 1));
            ask("began(" + i + ")", x -> x.began(n));
            ask("found(" + i + ")", x -> x.found(n));
            ask("ordered(" + i + ")", x -> x.ordered(n));
            ask("trace(" + i + ")", x -> x.trace(n));
        }
    }

    private static void gatherLists() {
        ask("list(0, 0, 0, 3)", x -> x.list(0, 0, 0, 3));
        ask("row(1, 1, 1, 1)", x -> x.row(1, 1, 1, 1));
        ask("blank(3)", x -> x.blank(3));
        ask("canBe(1, 1, 1)", x -> x.canBe(1, 1, 1));
        ask("canBe(1, 2, 1)", x -> x.canBe(1, 2, 1));
        ask("canBe(26, 26, 1)", x -> x.canBe(26, 26, 1));
        ask("feed(1, '1')", x -> x.feed(1, '1'));
        ask("text(0, 0)", x -> x.text(0, 0));
        ask("says(4, 0, 1, 30, 30)", x -> x.says(4, 0, 1, 30, 30));
        ask("says(4, 0, 0, 30, 30)", x -> x.says(4, 0, 0, 30, 30));
        ask("ratio(1)", x -> x.ratio(1));
        ask("judge(1, 1)", x -> x.judge(1, 1));
        ask("judge(7, 3)", x -> x.judge(7, 3));
        ask("offer(1)", x -> x.offer(1));
        ask("offer(7)", x -> x.offer(7));
        ask("best()", x -> x.best());
        ask("bestOf(0)", x -> x.bestOf(0));
        ask("bestOf(1)", x -> x.bestOf(1));
        ask("act(5, 2, 3)", x -> x.act(5, 2, 3));
    }

    private static void gatherPlans() {
        ask("load(1, 1, 1)", x -> x.load(1, 1, 1));
        ask("sail(999, 999, 3)", x -> x.sail(999, 999, 3));
        ask("voyage(0, 0)", x -> x.voyage(0, 0));
        ask("walker(0, 1)", x -> x.walker(0, 1));
        ask("walker(1, 1)", x -> x.walker(1, 1));
        ask("bridge(3)", x -> x.bridge(3));
        ask("began(1)", x -> x.began(1));
        ask("sought(0, 12, 20)", x -> x.sought(0, 12, 20));
        ask("find(0)", x -> x.find(0));
        ask("found(1)", x -> x.found(1));
        ask("found(-1)", x -> x.found(-1));
        ask("find(0) of none", x -> x.find(0));
        ask("round(1, 1)", x -> x.round(1, 1));
        ask("aim(3)", x -> x.aim(3));
        ask("order()", x -> x.order());
        ask("ordered(0)", x -> x.ordered(0));
        ask("order() of none", x -> x.order());
    }

    private static void gatherDays() {
        ask("letter()", x -> x.letter());
        ask("fact(1, 0, 1)", x -> x.fact(1, 0, 1));
        ask("known(1, 1, 0, 30)", x -> x.known(1, 1, 0, 30));
        ask("promise(0, 1, 600)", x -> x.promise(0, 1, 600));
        for (int g = 1; g <= 9; g++) {
            int grade = g;
            ask("rise(" + g + ", 2)", x -> x.rise(grade, 2));
        }
        ask("person(1, 2, 1, -1, 0)", x -> x.person(1, 2, 1, -1, 0));
        for (int i = 0; i < 2; i++) {
            ask("days(1)", x -> x.days(1));
            ask("of(1, 6)", x -> x.of(1, 6));
            ask("of(7, 6)", x -> x.of(7, 6));
            ask("of(8, 2)", x -> x.of(8, 2));
            ask("count(8)", x -> x.count(8));
        }
        ask("move(0, 1)", x -> x.move(0, 1));
        ask("camp(0, 1)", x -> x.camp(0, 1));
    }

    // ---- objects to ask

    private static void feed(NameRolls x, String s) {
        for (int i = 0; i < s.length(); i += 4) {
            int bytes = Math.min(4, s.length() - i);
            int v = 0;
            for (int b = 0; b < bytes; b++) {
                v |= s.charAt(i + b) << 8 * b;
            }
            x.feed(bytes, v);
        }
    }

    private static int text(NameRolls x, int what, int from, String s) {
        feed(x, s);
        return x.text(what, from);
    }

    /** Two camps of SIDE 0 (0, 1) and one of SIDE 1 (2), all tied to the harbour and the bridge. */
    private static NameRolls land() {
        NameRolls x = new NameRolls();
        x.camp(0, 9);
        x.camp(0, 2);
        x.camp(1, 9);
        x.road(0, 1, 2);
        x.road(0, 16, 3);
        x.road(1, 17, 4);
        x.road(2, 16, 1);
        x.road(2, 17, 5);
        return x;
    }

    private static NameRolls at(int day) {
        NameRolls x = new NameRolls();
        for (int left = day; left > 0; left -= Math.min(left, 60)) {
            x.days(Math.min(left, 60));
        }
        return x;
    }

    /** On DAY 11 one at least of all that there can be; persons in every state, and lists that wait. */
    private static NameRolls rich() {
        NameRolls x = land();
        x.camp(0, 1);
        x.days(5);
        x.person(1, 0, 30, -1, 0);
        x.person(2, 0, 40, -1, 3);
        x.person(3, 0, 50, -1, 0);
        x.person(6, 0, 9, 0, 0);
        x.person(5, 1, 33, -1, 0);
        x.person(7, 2, 44, -1, 0);
        x.person(4, 2, 20, -1, 0);
        x.person(2, 2, 70, -1, 8);
        for (int i = 0; i < 5; i++) {
            x.person(1, 0, 21 + i, -1, 0);
        }
        for (int i = 9; i <= 12; i++) {
            x.move(i, 16 + (i + 1) % 2);
        }
        for (int i = 13; i <= 15; i++) {
            x.person(1, 0, i, -1, 0);
        }
        x.promise(1, 1, 10);
        x.days(6);
        x.become(11, 4);
        x.become(12, 5);
        x.become(13, 6);
        x.become(14, 7);
        x.become(15, 8);
        x.move(8, 1);
        x.rise(3, 99);
        x.rise(8, 9);
        x.fact(1, 0, 0);
        x.fact(4, 1, 1);
        x.fact(5, 2, 1);
        x.letter();
        x.promise(0, 2, 20);
        richLists(x);
        return x;
    }

    private static void richLists(NameRolls x) {
        text(x, 0, 0, "g*2|n");
        text(x, 11, 0, "a>32");
        text(x, 22, 0, "a/10");
        text(x, 32, 0, "k");
        x.row(0, 57, 30, 5);
        x.row(1, 57, 31, 5);
        x.row(1, 58, 33, -1);
        x.canBe(1, 2, 1);
        x.table(0, 1, 9);
        x.item(0, 0, 20);
        x.item(0, 1, 30);
        x.item(0, 2, 3);
        x.item(0, 4, 7);
        x.table(1, 0, 5);
        x.item(1, 0, 300);
        x.blank(7);
        for (int turn = 0; turn < 2; turn++) {
            x.offer(0);
            x.offer(5);
            x.load(0, 3, 10);
            x.load(2, 9, 0);
            x.walker(0, 2);
            x.walker(1, 3);
            x.sought(0, 0, 5);
            x.round(5, 9);
            x.round(50, 60);
            x.aim(6);
            if (turn == 0) {
                x.best();
                x.sail(9, 99, 2);
                x.bridge(1);
                x.find(0);
                x.found(-1);
                x.order();
                x.act(5, 1, 2);
            }
        }
        x.offer(3);
        x.offer(6);
        x.ratio(2);
        feed(x, "0?7;");
    }

    public static void main(String[] args) {
        gather();
        landAndDays();
        people();
        tidings();
        writings();
        lists();
        trades();
        shipAndBridge();
        soughtAndRounds();
        actsAndTables();
        System.out.println(wrong == 0 ? asked + " answers at edges are as due" : wrong + " answers are not as due");
        if (wrong != 0) {
            System.exit(1);
        }
    }

    private static final int[] NOT_SIDES = {-1, 2, LEAST, MOST};

    // ---- promises 1 to 6

    private static void landAndDays() {
        newObject();
        days();
        daysGoBy();
        camps();
        roads();
        far();
        rises();
    }

    private static void newObject() {
        for (int what = 0; what <= 18; what++) {
            due(1, "count(" + what + ")", new NameRolls().count(what), 0);
        }
        NameRolls x = new NameRolls();
        for (int g = 1; g <= 9; g++) {
            due(1, "rise(" + g + ", 0) at first", x.rise(g, 0), 0);
        }
        due(1, "ratio at first", x.ratio(10), 10);
        due(1, "blank at first", x.blank(-1), -1);
        for (int t = 0; t < 4; t++) {
            due(1, "a table holds nothing", x.item(t, 0, 0), CAST);
        }
        for (int a = 1; a <= 26; a++) {
            due(1, "a letter is its own number", x.canBe(a, a, 1), 1);
            due(1, "and no other", x.canBe(a, a % 26 + 1, 0), 0);
        }
        due(1, "the lists are empty", x.best(), STATE);
        due(1, "no camps are told", x.sail(0, 0, 1), STATE);
        due(1, "the rows are empty", x.bridge(1), STATE);
        due(1, "none is sought", x.find(1), STATE);
        due(1, "no rounds", x.order(), STATE);
        NameRolls y = new NameRolls();
        y.camp(0, 1);
        due(1, "an object of its own", x.count(0), 0);
    }

    private static void days() {
        int[] wrongOnes = {0, -1, 61, LEAST, MOST};
        for (int n : wrongOnes) {
            refused(2, NONE, "days(" + n + ")", EdgeTests::rich, x -> x.days(n));
        }
        due(2, "days(1)", new NameRolls().days(1), 1);
        due(2, "days(60)", new NameRolls().days(60), 60);
        due(2, "days(60) to 600", at(540).days(60), 600);
        due(2, "days(59) to 600", at(541).days(59), 600);
        due(2, "days(1) to 600", at(599).days(1), 600);
        refused(2, NONE, "days(60) to 601", () -> at(541), x -> x.days(60));
        refused(2, NONE, "days(2) to 601", () -> at(599), x -> x.days(2));
        refused(2, NONE, "days(1) to 601", () -> at(600), x -> x.days(1));
    }

    private static void daysGoBy() {
        NameRolls x = land();
        x.person(2, 0, 1, -1, 9);
        x.rise(9, 2);
        x.move(0, 1);
        x.days(2);
        due(2, "it comes, then its GRADE rises", x.of(0, 2), 8);
        due(2, "so it had a STAY there", x.stay(0, 1, 0), 1);
        due(2, "from that DAY", x.stay(0, 1, 1), 2);
        due(2, "to that DAY", x.stay(0, 1, 2), 2);
        due(2, "it keeps 10", x.of(0, 6), 10);
        due(2, "in no CAMP", x.of(0, 3), -1);
        x.person(2, 0, 1, -1, 8);
        x.rise(8, 99);
        x.days(60);
        x.days(38);
        due(2, "98 of 99 DAYS", x.of(1, 6), 8);
        x.days(1);
        due(2, "99 DAYS", x.of(1, 6), 9);
        x.days(1);
        due(2, "it began then", x.of(1, 6), 9);
        x.days(1);
        due(2, "and lasts 2 DAYS", x.of(1, 6), 10);
        due(2, "it died in the CAMP", x.stay(1, 0, 2), 103);
        x.person(2, 0, 1, -1, 1);
        x.days(60);
        due(2, "a RISE of 0 is for good", x.of(2, 6), 1);
        for (int g = 1; g <= 9; g++) {
            x.rise(g, 1);
        }
        for (int g = 2; g <= 10; g++) {
            due(2, "days(1)", x.days(1), 162 + g);
            due(2, "one a DAY at most", x.of(2, 6), g);
        }
        due(2, "and is DEAD", x.of(2, 2), 8);
        x.days(1);
        due(2, "10 stays", x.of(2, 6), 10);
        due(2, "since then", x.of(2, 8), 172);
    }

    private static void camps() {
        for (int side : NOT_SIDES) {
            refused(3, NONE, "camp(" + side + ", 1)", EdgeTests::rich, x -> x.camp(side, 1));
        }
        int[] notBeds = {0, -1, 100, LEAST, MOST};
        for (int beds : notBeds) {
            refused(3, NONE, "camp(0, " + beds + ")", EdgeTests::rich, x -> x.camp(0, beds));
        }
        NameRolls x = new NameRolls();
        due(3, "1 BED", x.camp(0, 1), 0);
        due(3, "99 BEDS", x.camp(1, 99), 1);
        x.person(1, 0, 1, -1, 0);
        due(3, "just 1", x.person(1, 0, 1, -1, 0), STATE);
        for (int i = 1; i <= 99; i++) {
            due(3, "a BED", x.person(1, 1, 1, -1, 0), i);
        }
        due(3, "just 99", x.person(1, 1, 1, -1, 0), STATE);
        due(3, "the 16th", sixteen().far(15, 15), 0);
        refused(3, FULL, "camp(0, 1) of 17", EdgeTests::sixteen, y -> y.camp(0, 1));
        refused(3, NONE, "camp(2, 1) of 17", EdgeTests::sixteen, y -> y.camp(2, 1));
        refused(3, NONE, "camp(1, 100) of 17", EdgeTests::sixteen, y -> y.camp(1, 100));
    }

    /** Sixteen camps in a row, each 9 DAYS from the next one, then the harbour, then the bridge. */
    private static NameRolls sixteen() {
        NameRolls x = new NameRolls();
        for (int i = 0; i < 16; i++) {
            x.camp(0, 9);
        }
        for (int i = 0; i < 17; i++) {
            x.road(i, i + 1, 9);
        }
        return x;
    }

    private static void roads() {
        int[][] wrongOnes = {{0, 0, 1}, {16, 16, 1}, {17, 17, 1}, {0, 2, 1}, {2, 1, 1}, {0, 4, 1}, {4, 0, 1},
            {15, 16, 1}, {-1, 0, 1}, {0, -1, 1}, {18, 0, 1}, {0, 18, 1}, {LEAST, 0, 1}, {0, MOST, 1}, {0, 1, 0},
            {0, 1, 10}, {0, 1, -1}, {0, 1, LEAST}, {0, 1, MOST}};
        for (int[] w : wrongOnes) {
            refused(4, NONE, "road(" + w[0] + ", " + w[1] + ", " + w[2] + ")", EdgeTests::rich,
                x -> x.road(w[0], w[1], w[2]));
        }
        NameRolls x = new NameRolls();
        x.camp(1, 1);
        x.camp(1, 1);
        due(4, "9 DAYS", x.road(0, 1, 9), 9);
        due(4, "more do not count", x.road(1, 0, 9), 9);
        due(4, "less count", x.road(1, 0, 8), 8);
        due(4, "1 DAY", x.road(0, 1, 1), 1);
        due(4, "the least told", x.road(0, 1, 2), 1);
        due(4, "so it is far", x.far(1, 0), 1);
        due(4, "the harbour and the bridge", x.road(17, 16, 3), 3);
        due(4, "a camp and the bridge", x.road(17, 1, 3), 3);
        due(4, "a camp and the harbour", x.road(0, 16, 3), 3);
        due(4, "none to the other's", x.camp(0, 1), 2);
        due(4, "none to the other's", x.road(2, 0, 1), NONE);
    }

    private static void far() {
        NameRolls x = sixteen();
        due(5, "to itself", x.far(0, 0), 0);
        due(5, "the next", x.far(0, 1), 9);
        due(5, "the 16th", x.far(0, 15), 135);
        due(5, "the harbour", x.far(0, 16), 144);
        due(5, "the bridge", x.far(0, 17), 153);
        due(5, "back", x.far(15, 0), 135);
        x.road(0, 17, 9);
        due(5, "the other way round", x.far(0, 16), 18);
        due(5, "the lesser of both", x.far(8, 0), 72);
        due(5, "through harbour and bridge", x.far(14, 0), 36);
        int[][] wrongOnes = {{-1, 0}, {16, 0}, {17, 0}, {4, 0}, {0, 4}, {0, 15}, {0, -1}, {0, 18}, {LEAST, 0},
            {0, LEAST}, {MOST, 0}, {0, MOST}};
        for (int[] w : wrongOnes) {
            refused(5, NONE, "far(" + w[0] + ", " + w[1] + ")", EdgeTests::rich, y -> y.far(w[0], w[1]));
        }
        refused(5, NOT, "far(3, 0)", EdgeTests::rich, y -> y.far(3, 0));
        refused(5, NOT, "far(0, 3)", EdgeTests::rich, y -> y.far(0, 3));
        due(5, "to itself without a road", rich().far(3, 3), 0);
        due(5, "a camp of the other SIDE may end it", rich().far(0, 2), 4);
        due(5, "and begin it", rich().far(2, 0), 4);
        NameRolls y = land();
        y.road(2, 16, 1);
        due(5, "not through the other's camp, though less", y.far(0, 17), 6);
    }

    private static void rises() {
        int[][] wrongOnes = {{0, 1}, {10, 1}, {-1, 1}, {LEAST, 1}, {MOST, 1}, {1, -1}, {1, 100}, {9, LEAST}, {9, MOST}};
        for (int[] w : wrongOnes) {
            refused(6, NONE, "rise(" + w[0] + ", " + w[1] + ")", EdgeTests::rich, x -> x.rise(w[0], w[1]));
        }
        NameRolls x = new NameRolls();
        for (int g = 1; g <= 9; g++) {
            due(6, "rise(" + g + ", 99)", x.rise(g, 99), 0);
            due(6, "rise(" + g + ", 0)", x.rise(g, 0), 99);
            due(6, "rise(" + g + ", " + g + ")", x.rise(g, g), 0);
        }
        for (int g = 1; g <= 9; g++) {
            due(6, "each its own", x.rise(g, 0), g);
        }
    }

    // ---- promises 7 to 12

    private static void people() {
        persons();
        personsWith();
        personsFull();
        moves();
        movesFull();
        heals();
        becomes();
        ofPersons();
        stays();
    }

    private static void persons() {
        int[][] wrongOnes = {{0, 2, 1, -1, 0}, {8, 2, 1, -1, 0}, {-1, 2, 1, -1, 0}, {LEAST, 2, 1, -1, 0},
            {MOST, 2, 1, -1, 0}, {1, -1, 1, -1, 0}, {1, 4, 1, -1, 0}, {1, 16, 1, -1, 0}, {1, 17, 1, -1, 0},
            {1, MOST, 1, -1, 0}, {1, 2, -1, -1, 0}, {1, 2, 100, -1, 0}, {1, 2, LEAST, -1, 0}, {1, 2, MOST, -1, 0},
            {1, 2, 1, -2, 0}, {1, 2, 1, 5, 0}, {2, 2, 1, 5, 1}, {3, 2, 1, 5, 0}, {4, 2, 1, 5, 0}, {5, 2, 1, 5, 0},
            {7, 2, 1, 5, 0}, {6, 2, 1, -2, 0}, {6, 2, 1, 16, 0}, {6, 2, 1, 0, 0}, {6, 2, 1, LEAST, 0},
            {6, 2, 1, MOST, 0}, {1, 2, 1, -1, 1}, {1, 2, 1, -1, -1}, {3, 2, 1, -1, 9}, {6, 2, 1, 5, 1},
            {2, 2, 1, -1, 0}, {2, 2, 1, -1, 10}, {2, 2, 1, -1, -1}, {2, 2, 1, -1, LEAST}, {2, 2, 1, -1, MOST}};
        for (int[] w : wrongOnes) {
            refused(7, NONE, "person(" + w[0] + ", " + w[1] + ", " + w[2] + ", " + w[3] + ", " + w[4] + ")",
                EdgeTests::rich, x -> x.person(w[0], w[1], w[2], w[3], w[4]));
        }
        refused(7, STATE, "person in a full CAMP", EdgeTests::rich, x -> x.person(1, 1, 1, -1, 0));
        refused(7, NONE, "a wrong person in a full CAMP", EdgeTests::rich, x -> x.person(1, 1, 100, -1, 0));
        NameRolls x = land();
        for (int kind = 1; kind <= 7; kind++) {
            int age = kind == 1 ? 0 : 99;
            due(7, "KIND " + kind, x.person(kind, 0, age, -1, kind == 2 ? 9 : 0), kind - 1);
            due(7, "its KIND", x.of(kind - 1, 0), kind);
            due(7, "its AGE", x.of(kind - 1, 4), age);
            due(7, "its GRADE", x.of(kind - 1, 6), kind == 2 ? 9 : 0);
        }
        for (int grade = 1; grade <= 2; grade++) {
            due(7, "GRADE", x.person(2, 2, 1, -1, grade), 6 + grade);
            due(7, "its GRADE", x.of(6 + grade, 6), grade);
        }
    }

    private static void personsWith() {
        NameRolls x = land();
        due(7, "a CHILD with itself", x.person(6, 0, 1, 0, 0), NONE);
        due(7, "a CHILD with nobody", x.person(6, 0, 1, -1, 0), 0);
        due(7, "a CHILD with a CHILD", x.person(6, 0, 1, 0, 0), 1);
        due(7, "in another CAMP of the holder", x.person(6, 1, 1, 1, 0), 2);
        due(7, "of the other holder", x.person(6, 2, 1, 1, 0), NONE);
        int[] ways = {6, 7, 8};
        for (int state : ways) {
            x.person(1, 0, 1, -1, 0);
            int p = x.count(1) - 1;
            x.become(p, state);
            due(7, "a CHILD with one in state " + state, x.person(6, 0, 1, p, 0), p + 1);
        }
        x.move(0, 16);
        due(7, "with one ON THE ROAD", x.person(6, 0, 1, 0, 0), 9);
        x.days(3);
        due(7, "with one AT THE HARBOUR", x.person(6, 0, 1, 0, 0), 10);
        due(7, "WITH", x.of(10, 5), 0);
    }

    /** All persons that there may be: 99 in camp 0, which is full, and 51 in camp 1. */
    private static NameRolls hundredFifty() {
        NameRolls x = new NameRolls();
        x.camp(0, 99);
        x.camp(1, 99);
        for (int i = 0; i < 150; i++) {
            x.person(1, i < 99 ? 0 : 1, 1, -1, 0);
        }
        return x;
    }

    private static void personsFull() {
        due(7, "the 150th", hundredFifty().of(149, 0), 1);
        due(7, "no 151st", hundredFifty().of(150, 0), NO_VALUE);
        refused(7, FULL, "person 151", EdgeTests::hundredFifty, x -> x.person(1, 1, 1, -1, 0));
        refused(7, STATE, "person 151 without a BED", EdgeTests::hundredFifty, x -> x.person(1, 0, 1, -1, 0));
        refused(7, NONE, "person 151 of KIND 8", EdgeTests::hundredFifty, x -> x.person(8, 0, 1, -1, 0));
        NameRolls x = hundredFifty();
        x.become(0, 8);
        due(7, "the dead count", x.person(1, 0, 1, -1, 0), FULL);
    }

    private static void moves() {
        int[][] wrongOnes = {{-1, 0}, {16, 0}, {LEAST, 0}, {MOST, 0}, {0, -1}, {0, 4}, {0, 15}, {0, 18}, {0, LEAST},
            {0, MOST}, {9, 18}};
        for (int[] w : wrongOnes) {
            refused(8, NONE, "move(" + w[0] + ", " + w[1] + ")", EdgeTests::rich, x -> x.move(w[0], w[1]));
        }
        refused(8, STATE, "move to where it is", EdgeTests::rich, x -> x.move(0, 0));
        refused(8, STATE, "move to the other's CAMP", EdgeTests::rich, x -> x.move(0, 2));
        refused(8, STATE, "move to a CAMP without a BED", EdgeTests::rich, x -> x.move(0, 1));
        for (int p = 8; p <= 15; p++) {
            int person = p;
            refused(8, STATE, "move of one not IN CAMP", EdgeTests::rich, x -> x.move(person, 16));
        }
        refused(8, NOT, "move without a way", EdgeTests::rich, x -> x.move(0, 3));
        Supplier<NameRolls> alone = () -> {
            NameRolls x = rich();
            x.person(1, 3, 1, -1, 0);
            return x;
        };
        refused(8, NOT, "move without a way to the harbour", alone, x -> x.move(16, 16));
        refused(8, STATE, "without a BED, ahead of without a way", alone, x -> x.move(0, 3));
        refused(8, STATE, "the other's CAMP, ahead of without a way", alone, x -> x.move(16, 2));
        movesByDays();
    }

    private static void movesByDays() {
        NameRolls x = at(600);
        x.camp(0, 1);
        x.camp(0, 1);
        x.road(0, 1, 9);
        x.person(1, 0, 1, -1, 0);
        due(8, "there behind DAY 600", x.move(0, 1), 609);
        due(8, "so it is told", x.of(0, 10), 609);
        due(8, "its BED there is taken", x.person(1, 1, 1, -1, 0), STATE);
        due(8, "its BED here is free", x.person(1, 0, 1, -1, 0), 1);
        NameRolls y = sixteen();
        y.person(1, 0, 1, -1, 0);
        due(8, "the longest way", y.move(0, 17), 153);
        y.days(60);
        y.days(60);
        y.days(32);
        due(8, "a DAY ahead", y.of(0, 2), 1);
        y.days(1);
        due(8, "there", y.of(0, 2), 3);
        due(8, "since", y.of(0, 8), 153);
        due(8, "no STAY at the bridge", y.of(0, 9), 1);
        NameRolls z = land();
        z.person(1, 0, 1, -1, 0);
        z.person(1, 1, 1, -1, 0);
        z.person(1, 1, 1, -1, 0);
        due(8, "no BED", z.move(0, 1), STATE);
        z.move(1, 17);
        due(8, "one has left", z.move(0, 1), 2);
        due(8, "all are taken", z.person(1, 1, 1, -1, 0), STATE);
    }

    /** 150 persons, who have been led on till 400 STAYS have begun, but for so many who are still on the road. */
    private static NameRolls fourHundred(int onRoad) {
        NameRolls x = new NameRolls();
        x.camp(0, 99);
        x.camp(0, 99);
        x.camp(0, 99);
        x.road(0, 1, 1);
        x.road(2, 0, 1);
        x.road(0, 16, 1);
        for (int i = 0; i < 149; i++) {
            x.person(1, i < 75 ? 0 : 2, 1, -1, 0);
        }
        for (int round = 0; round < 3; round++) {
            for (int i = 0; i < 75; i++) {
                x.move(i, 1 - round % 2);
            }
            x.days(1);
        }
        for (int i = 75; i < 101; i++) {
            if (i == 101 - onRoad) {
                x.days(1);
            }
            x.move(i, 0);
        }
        if (onRoad == 0) {
            x.days(1);
        }
        return x;
    }

    private static void movesFull() {
        due(8, "STAYS", fourHundred(0).count(8), 400);
        due(8, "STAYS that have begun", fourHundred(5).count(8), 395);
        for (int n = 0; n <= 5; n += 5) {
            int onRoad = n;
            Supplier<NameRolls> full = () -> fourHundred(onRoad);
            refused(8, FULL, "a move to a CAMP", full, x -> x.move(120, 0), FEW);
            refused(8, NONE, "a move to no CAMP", full, x -> x.move(120, 3), FEW);
            refused(8, STATE, "a move to where it is", full, x -> x.move(120, 2), FEW);
            refused(8, NOT, "a move without a way", full, x -> x.move(120, 17), FEW);
            refused(7, FULL, "a person", full, x -> x.person(1, 0, 1, -1, 0), FEW);
            refused(7, NONE, "a person of KIND 0", full, x -> x.person(0, 0, 1, -1, 0), FEW);
            due(8, "to the harbour it is not FULL", fourHundred(n).move(120, 16), 6);
        }
        NameRolls x = fourHundred(5);
        x.become(100, 8);
        due(8, "one died on the road", x.move(120, 0), 5);
        due(8, "so it is FULL again", x.move(121, 0), FULL);
        x.days(1);
        due(8, "STAYS", x.count(8), 400);
        due(8, "FULL", x.move(121, 0), FULL);
    }

    private static void heals() {
        int[][] wrongOnes = {{-1, 0}, {16, 0}, {LEAST, 0}, {MOST, 0}, {1, -1}, {1, 10}, {1, LEAST}, {1, MOST}};
        for (int[] w : wrongOnes) {
            refused(9, NONE, "heal(" + w[0] + ", " + w[1] + ")", EdgeTests::rich, x -> x.heal(w[0], w[1]));
        }
        int[] notLess = {3, 4, 9};
        for (int grade : notLess) {
            refused(9, STATE, "heal(1, " + grade + ")", EdgeTests::rich, x -> x.heal(1, grade));
        }
        for (int p = 8; p <= 15; p++) {
            int person = p;
            refused(9, STATE, "heal of one not IN CAMP", EdgeTests::rich, x -> x.heal(person, 0));
        }
        refused(9, STATE, "heal of one without a GRADE", EdgeTests::rich, x -> x.heal(0, 0));
        NameRolls x = land();
        x.person(2, 0, 1, -1, 9);
        due(9, "9 is a number", x.heal(0, 9), STATE);
        for (int g = 8; g >= 0; g--) {
            due(9, "heal(0, " + g + ")", x.heal(0, g), g + 1);
            due(9, "GRADE", x.of(0, 6), g);
        }
        due(9, "0 is not less than 0", x.heal(0, 0), STATE);
        due(9, "it is SICK still", x.of(0, 0), 2);
        due(9, "its state began when it came", x.of(0, 8), 0);
    }

    /** Persons 0 to 8 in the states of their numbers. */
    private static NameRolls states() {
        NameRolls x = new NameRolls();
        x.camp(0, 9);
        x.road(0, 16, 1);
        x.road(0, 17, 1);
        for (int i = 0; i < 9; i++) {
            x.person(2, 0, 1, -1, 5);
        }
        x.move(2, 16);
        x.move(3, 17);
        x.move(4, 16);
        x.move(5, 17);
        x.days(1);
        x.become(4, 4);
        x.become(5, 5);
        x.become(6, 6);
        x.become(7, 7);
        x.become(8, 8);
        x.move(1, 16);
        return x;
    }

    private static void becomes() {
        int[] nothing = {-1, 0, 1, 2, 3, 9, LEAST, MOST};
        for (int state : nothing) {
            refused(10, NONE, "become(0, " + state + ")", EdgeTests::rich, x -> x.become(0, state));
        }
        int[] nobody = {-1, 16, LEAST, MOST};
        for (int p : nobody) {
            refused(10, NONE, "become(" + p + ", 8)", EdgeTests::rich, x -> x.become(p, 8));
        }
        for (int from = 0; from <= 8; from++) {
            due(10, "state", states().of(from, 2), from);
            for (int to = 4; to <= 8; to++) {
                int p = from;
                int state = to;
                boolean may = to == 4 && from == 2 || to == 5 && (from == 3 || from == 4)
                    || (to == 6 || to == 7) && from == 0 || to == 8 && from <= 4;
                String what = "become " + to + " from " + from;
                if (!may) {
                    refused(10, STATE, what, EdgeTests::states, x -> x.become(p, state));
                    continue;
                }
                NameRolls x = states();
                due(10, what, x.become(p, to), 1);
                int[] want = {2, 0, to, -1, 1, -1, 5, 0, 1, 1, -1};
                for (int w = 0; w < want.length; w++) {
                    due(10, "of(" + p + ", " + w + ") behind " + what, x.of(p, w), want[w]);
                }
                due(10, "its STAY behind " + what, x.stay(p, 0, 2), from == 0 || from == 1 ? 1 : 0);
                x.days(1);
                due(10, "it stays so behind " + what, x.of(p, 2), to);
            }
        }
    }

    private static void ofPersons() {
        int[][] wrongOnes = {{-1, 0}, {16, 0}, {LEAST, 0}, {MOST, 0}, {0, -1}, {0, 11}, {0, LEAST}, {0, MOST}};
        for (int[] w : wrongOnes) {
            refused(11, NO_VALUE, "of(" + w[0] + ", " + w[1] + ")", EdgeTests::rich, x -> x.of(w[0], w[1]));
        }
        NameRolls x = states();
        int[][] want = {
            {2, 0, 0, 0, 1, -1, 5, 0, 0, 1, -1},
            {2, 0, 1, 16, 1, -1, 5, 0, 1, 1, 2},
            {2, 0, 2, -1, 1, -1, 5, 0, 1, 1, -1},
            {2, 0, 3, -1, 1, -1, 5, 0, 1, 1, -1}};
        for (int p = 0; p < want.length; p++) {
            for (int w = 0; w < 11; w++) {
                due(11, "of(" + p + ", " + w + ")", x.of(p, w), want[p][w]);
            }
        }
        for (int p = 4; p < 9; p++) {
            due(11, "state " + p, x.of(p, 2), p);
            due(11, "no CAMP", x.of(p, 3), -1);
            due(11, "no DAY when it is there", x.of(p, 10), -1);
            due(11, "since DAY 1", x.of(p, 8), 1);
        }
        due(11, "nobody in a new object", new NameRolls().of(0, 0), NO_VALUE);
    }

    private static void stays() {
        int[][] wrongOnes = {{-1, 0, 0}, {16, 0, 0}, {LEAST, 0, 0}, {MOST, 0, 0}, {0, -1, 0}, {0, 1, 0}, {0, LEAST, 0},
            {0, MOST, 0}, {0, 0, -1}, {0, 0, 3}, {0, 0, LEAST}, {0, 0, MOST}};
        for (int[] w : wrongOnes) {
            refused(12, NO_VALUE, "stay(" + w[0] + ", " + w[1] + ", " + w[2] + ")", EdgeTests::rich,
                x -> x.stay(w[0], w[1], w[2]));
        }
        NameRolls x = land();
        x.person(1, 0, 1, -1, 0);
        x.move(0, 1);
        due(12, "it left on the DAY when it came", x.stay(0, 0, 2), 0);
        due(12, "the next has not begun", x.stay(0, 1, 0), NO_VALUE);
        due(12, "one STAY", x.of(0, 9), 1);
        x.days(2);
        due(12, "it begins when it is there", x.stay(0, 1, 1), 2);
        due(12, "it goes on", x.stay(0, 1, 2), -1);
        x.days(3);
        x.move(0, 0);
        due(12, "it left", x.stay(0, 1, 2), 5);
        x.days(2);
        due(12, "back in the first", x.stay(0, 2, 0), 0);
        due(12, "from", x.stay(0, 2, 1), 7);
        x.become(0, 8);
        due(12, "it died", x.stay(0, 2, 2), 7);
        due(12, "the last of 400", fourHundred(0).stay(100, 1, 1), 4);
    }

    // ---- promises 13 to 18

    private static void tidings() {
        facts();
        letters();
        known();
        knownByLetters();
        promises();
        promisesKept();
    }

    private static NameRolls facts300() {
        NameRolls x = land();
        x.person(2, 0, 40, -1, 3);
        x.person(1, 0, 40, -1, 0);
        x.move(1, 16);
        for (int i = 0; i < 300; i++) {
            x.fact(0, i % 3, 1);
        }
        return x;
    }

    private static void facts() {
        int[][] wrongOnes = {{-1, 1, 1}, {16, 1, 1}, {LEAST, 1, 1}, {MOST, 1, 1}, {0, -1, 1}, {0, 3, 1}, {0, LEAST, 1},
            {0, MOST, 1}, {0, 0, -1}, {0, 0, 2}, {0, 1, -1}, {0, 1, 2}, {0, 2, LEAST}, {0, 2, MOST}, {8, 0, 2}};
        for (int[] w : wrongOnes) {
            refused(13, NONE, "fact(" + w[0] + ", " + w[1] + ", " + w[2] + ")", EdgeTests::rich,
                x -> x.fact(w[0], w[1], w[2]));
        }
        for (int p = 1; p <= 8; p++) {
            int person = p;
            refused(13, STATE, "SEEN in state " + p, EdgeTests::states, x -> x.fact(person, 0, 1));
            due(13, "ASKED in state " + p, states().fact(p, 1, 1), 1);
            due(13, "NAMED in state " + p, states().fact(p, 2, 0), 1);
        }
        due(13, "SEEN IN CAMP", states().fact(0, 0, 0), 1);
        due(13, "the 300th", facts300().count(3), 300);
        for (int s = 0; s < 3; s++) {
            int sort = s;
            refused(13, FULL, "fact 301", EdgeTests::facts300, x -> x.fact(0, sort, 0), FEW);
        }
        refused(13, STATE, "SEEN on the road, of 301", EdgeTests::facts300, x -> x.fact(1, 0, 0), FEW);
        refused(13, NONE, "sort 3 of 301", EdgeTests::facts300, x -> x.fact(0, 3, 0), FEW);
    }

    private static void letters() {
        Supplier<NameRolls> sixty = () -> {
            NameRolls x = rich();
            for (int i = 2; i <= 60; i++) {
                due(14, "letter", x.letter(), i);
            }
            return x;
        };
        refused(14, FULL, "letter 61", sixty, x -> x.letter());
        NameRolls x = sixty.get();
        x.days(1);
        x.fact(0, 1, 1);
        due(14, "letter 61", x.letter(), FULL);
        due(14, "so it carries nothing", x.known(1, 0, 1, 600), 0);
    }

    private static void known() {
        int[][] wrongOnes = {{-1, 1, 0, 0}, {2, 1, 0, 0}, {LEAST, 1, 0, 0}, {MOST, 1, 0, 0}, {0, -1, 0, 0},
            {0, 16, 0, 0}, {0, LEAST, 0, 0}, {0, MOST, 0, 0}, {0, 1, -1, 0}, {0, 1, 3, 0}, {0, 1, LEAST, 0},
            {0, 1, MOST, 0}, {0, 1, 0, -1}, {0, 1, 0, 601}, {0, 1, 0, LEAST}, {0, 1, 0, MOST}};
        for (int[] w : wrongOnes) {
            refused(15, NONE, "known(" + w[0] + ", " + w[1] + ", " + w[2] + ", " + w[3] + ")", EdgeTests::rich,
                x -> x.known(w[0], w[1], w[2], w[3]));
        }
        NameRolls x = land();
        x.person(2, 0, 1, -1, 7);
        x.person(2, 2, 1, -1, 4);
        due(15, "no FACT", x.known(0, 0, 0, 600), 0);
        x.days(3);
        for (int p = 0; p < 2; p++) {
            x.fact(p, 0, 0);
            x.fact(p, 1, 1);
            x.fact(p, 2, 1);
        }
        for (int p = 0; p < 2; p++) {
            int grade = p == 0 ? 7 : 4;
            int[] told = {3, 600};
            for (int k : told) {
                due(15, "SEEN to the holder on " + k, x.known(p, p, 0, k), grade);
                due(15, "ASKED to the holder on " + k, x.known(p, p, 1, k), 1);
                due(15, "NAMED to the other on " + k, x.known(1 - p, p, 2, k), 1);
                due(15, "SEEN not to the other on " + k, x.known(1 - p, p, 0, k), 0);
                due(15, "ASKED not to the other on " + k, x.known(1 - p, p, 1, k), 0);
                due(15, "NAMED not to the holder on " + k, x.known(p, p, 2, k), 0);
            }
            for (int sort = 0; sort < 3; sort++) {
                due(15, "a DAY ahead", x.known(sort == 2 ? 1 - p : p, p, sort, 2), 0);
                due(15, "on DAY 0", x.known(sort == 2 ? 1 - p : p, p, sort, 0), 0);
            }
        }
    }

    private static void knownByLetters() {
        NameRolls x = land();
        x.person(2, 0, 1, -1, 7);
        x.days(1);
        x.letter();
        x.days(1);
        x.fact(0, 0, 1);
        due(15, "a letter of the DAY ahead does not count", x.known(1, 0, 0, 600), 0);
        x.letter();
        due(15, "6 DAYS later", x.known(1, 0, 0, 8), 0);
        due(15, "7 DAYS later", x.known(1, 0, 0, 9), 7);
        x.days(1);
        x.letter();
        due(15, "the first letter counts", x.known(1, 0, 0, 9), 7);
        x.heal(0, 5);
        x.fact(0, 0, 1);
        due(15, "a letter of the same DAY, sent ahead", x.known(1, 0, 0, 10), 5);
        due(15, "a DAY ahead, what was KNOWN", x.known(1, 0, 0, 9), 7);
        x.heal(0, 0);
        x.fact(0, 0, 1);
        due(15, "the FACT told last of one DAY", x.known(0, 0, 0, 3), 0);
        due(15, "to both", x.known(1, 0, 0, 10), 0);
        x.fact(0, 1, 1);
        x.fact(0, 1, 0);
        due(15, "ASKED, and no more", x.known(0, 0, 1, 3), 0);
        x.days(60);
        x.fact(0, 1, 1);
        due(15, "letters sent ahead do not count", x.known(1, 0, 1, 600), 0);
        x.days(5);
        x.letter();
        due(15, "a letter behind it", x.known(1, 0, 1, 74), 0);
        due(15, "comes 7 DAYS later", x.known(1, 0, 1, 75), 1);
        NameRolls y = at(600);
        y.camp(0, 1);
        y.person(1, 0, 1, -1, 0);
        y.fact(0, 1, 1);
        y.letter();
        due(15, "it comes behind DAY 600", y.known(1, 0, 1, 600), 0);
        due(15, "on DAY 600", y.known(0, 0, 1, 600), 1);
    }

    private static void promises() {
        int[][] wrongOnes = {{-1, 1, 20}, {2, 1, 20}, {LEAST, 1, 20}, {MOST, 1, 20}, {0, 0, 20}, {0, -1, 20},
            {0, 100, 20}, {0, LEAST, 20}, {0, MOST, 20}, {0, 1, 10}, {0, 1, 0}, {0, 1, -1}, {0, 1, 601}, {0, 1, LEAST},
            {0, 1, MOST}};
        for (int[] w : wrongOnes) {
            refused(16, NONE, "promise(" + w[0] + ", " + w[1] + ", " + w[2] + ")", EdgeTests::rich,
                x -> x.promise(w[0], w[1], w[2]));
        }
        Supplier<NameRolls> forty = () -> {
            NameRolls x = rich();
            due(16, "1 PERSON, till TODAY", x.promise(1, 1, 11), 2);
            due(16, "99 PERSONS, till DAY 600", x.promise(0, 99, 600), 3);
            for (int i = 4; i < 40; i++) {
                due(16, "promise", x.promise(i % 2, i, 20), i);
            }
            return x;
        };
        refused(16, FULL, "promise 40", forty, x -> x.promise(0, 1, 20));
        refused(16, NONE, "promise 40 of none", forty, x -> x.promise(0, 0, 20));
        NameRolls x = forty.get();
        due(17, "the last one's n", x.ofPromise(39, 1), 39);
        due(17, "its SIDE", x.ofPromise(39, 0), 1);
        due(17, "its last DAY", x.ofPromise(39, 2), 20);
        due(17, "n of 99", x.ofPromise(3, 1), 99);
        due(17, "DAY 600", x.ofPromise(3, 2), 600);
        due(17, "no promise 40", x.ofPromise(40, 0), NONE);
        int[][] wrongAsks = {{-1, 0}, {2, 0}, {LEAST, 0}, {MOST, 0}, {0, -1}, {0, 5}, {0, LEAST}, {0, MOST}};
        for (int[] w : wrongAsks) {
            refused(17, NONE, "ofPromise(" + w[0] + ", " + w[1] + ")", EdgeTests::rich,
                y -> y.ofPromise(w[0], w[1]));
        }
        int[][] wrongDays = {{-1, 0}, {2, 0}, {LEAST, 0}, {MOST, 0}, {0, -1}, {0, 12}, {0, 600}, {0, LEAST}, {0, MOST}};
        for (int[] w : wrongDays) {
            refused(18, NONE, "broken(" + w[0] + ", " + w[1] + ")", EdgeTests::rich, y -> y.broken(w[0], w[1]));
        }
        due(16, "at DAY 600", at(600).promise(0, 1, 600), 0);
        due(16, "at DAY 600", at(600).promise(0, 1, 599), NONE);
    }

    private static void promisesKept() {
        NameRolls x = new NameRolls();
        x.camp(0, 9);
        x.camp(1, 9);
        x.road(0, 17, 1);
        x.road(1, 17, 1);
        for (int i = 0; i < 6; i++) {
            x.person(1, i < 5 ? 0 : 1, 1, -1, 0);
            x.move(i, 17);
        }
        x.days(1);
        x.become(0, 5);
        x.days(1);
        x.become(1, 5);
        x.promise(0, 2, 3);
        due(17, "those of its DAY ahead of it, no others", x.ofPromise(0, 3), 1);
        x.become(5, 5);
        due(17, "not the other SIDE's", x.ofPromise(0, 3), 1);
        due(17, "the last DAY is not behind", x.ofPromise(0, 4), 0);
        x.days(1);
        due(17, "on the last DAY it is not BROKEN", x.ofPromise(0, 4), 0);
        due(18, "on the last DAY", x.broken(0, 3), 0);
        x.promise(0, 2, 3);
        x.become(2, 5);
        due(17, "the last DAY counts", x.ofPromise(0, 3), 2);
        x.days(1);
        due(17, "n are enough", x.ofPromise(0, 4), 0);
        due(17, "n less one are not", x.ofPromise(1, 4), 1);
        due(17, "1 DONE", x.ofPromise(1, 3), 1);
        due(18, "BROKEN TODAY", x.broken(0, 4), 1);
        due(18, "not on its last DAY", x.broken(0, 3), 0);
        due(18, "not ahead of its telling", x.broken(0, 0), 0);
        due(18, "of the other SIDE none", x.broken(1, 4), 0);
        x.become(3, 5);
        due(17, "behind the last DAY none is DONE", x.ofPromise(1, 3), 1);
        x.become(4, 8);
        due(17, "the dead are not HANDED OVER", x.ofPromise(0, 3), 2);
        x.promise(1, 1, 4);
        x.days(1);
        due(18, "the other SIDE's", x.broken(1, 5), 1);
    }

    // ---- promises 19 to 25

    private static void writings() {
        feeds();
        texts();
        faults();
        inForce();
        says();
        saysOfNames();
        arithmetic();
        owed();
        mayStay();
        worth();
    }

    private static NameRolls tape(int bytes) {
        NameRolls x = rich();
        for (int left = bytes - 4; left > 0; left -= Math.min(left, 4)) {
            x.feed(Math.min(left, 4), 0x2B312B31);
        }
        return x;
    }

    private static void feeds() {
        int[] wrongOnes = {0, -1, 5, LEAST, MOST};
        for (int n : wrongOnes) {
            refused(19, NONE, "feed(" + n + ", 49)", EdgeTests::rich, x -> x.feed(n, 49));
            refused(19, NONE, "feed(" + n + ", 49) to 160", () -> tape(160), x -> x.feed(n, 49));
        }
        for (int n = 1; n <= 4; n++) {
            int bytes = n;
            due(19, "feed(" + n + ") to 160", tape(160 - n).feed(n, 0x31313131), 160);
            refused(19, FULL, "feed(" + n + ") to 161", () -> tape(161 - bytes), x -> x.feed(bytes, 49));
            refused(19, FULL, "feed(" + n + ") behind 160", () -> tape(160), x -> x.feed(bytes, 49));
            due(19, "the first " + n, new NameRolls().feed(n, -1), n);
        }
        NameRolls x = new NameRolls();
        x.feed(4, '1' | '2' << 8 | '3' << 16 | 'k' << 24);
        due(20, "four bytes, the lowest first", x.text(0, 0), -103);
        x.feed(3, '1' | '2' << 8 | 'k' << 16 | '3' << 24);
        due(20, "three bytes", x.text(0, 0), -102);
        x.feed(1, '1' | 'k' << 8);
        due(20, "one byte", x.text(0, 0), 0);
        x.feed(1, 49 + 256);
        due(20, "its lowest byte alone", x.text(0, 0), 1);
        x.feed(1, 49 - 256);
        due(20, "of a number below 0, too", x.text(0, 0), 2);
        x.feed(4, -1);
        due(20, "a byte 255", x.text(0, 0), -100);
        x.feed(1, 128 + '1');
        due(20, "a byte above 127", x.text(0, 0), -100);
    }

    private static NameRolls texts20() {
        NameRolls x = rich();
        x.feed(1, '1');
        for (int i = 4; i < 20; i++) {
            due(20, "text", x.text(i % 3, 0), i);
            x.feed(1, '1');
        }
        x.feed(1, '?');
        return x;
    }

    private static void texts() {
        int[] notPurposes = {-1, 3, 9, 13, 19, 23, 29, 33, 39, 40, 41, 100, -10, LEAST, MOST};
        for (int what : notPurposes) {
            refused(20, NONE, "text(" + what + ", 0)", EdgeTests::rich, x -> x.text(what, 0));
            refused(21, NONE, "inForce(" + what + ", 0, 0)", EdgeTests::rich, x -> x.inForce(what, 0, 0));
        }
        int[] notDays = {-1, 601, LEAST, MOST};
        for (int day : notDays) {
            refused(20, NONE, "text(0, " + day + ")", EdgeTests::rich, x -> x.text(0, day));
            refused(20, NONE, "text(0, " + day + ") of 21", EdgeTests::texts20, x -> x.text(0, day));
        }
        refused(20, FULL, "text 20", EdgeTests::texts20, x -> x.text(0, 0));
        refused(20, NONE, "text 20 of USE 3", EdgeTests::texts20, x -> x.text(3, 0));
        NameRolls x = new NameRolls();
        int made = 0;
        for (int party = 0; party < 4; party++) {
            for (int use = 0; use < 3; use++) {
                int what = 10 * party + use;
                due(21, "inForce(" + what + ") ahead of it", x.inForce(what, 600, 600), NOT);
                due(20, "text(" + what + ")", text(x, what, use * 300, "k"), made);
                due(20, "THE TAPE is empty", x.count(9), 0);
                due(21, "inForce(" + what + ")", x.inForce(what, use * 300, 0), made);
                due(21, "inForce(" + what + ") a DAY ahead", x.inForce(what, use * 300 - 1, 0),
                    use == 0 ? NONE : NOT);
                made++;
            }
        }
        due(20, "a FAULT is no TEXT", text(x, 0, 0, "?"), -100);
        due(20, "THE TAPE is empty", x.count(9), 0);
        due(20, "TEXTS", x.count(6), made);
        due(20, "an empty TAPE", x.text(0, 0), -100);
    }

    private static void fault(String s, int at) {
        NameRolls x = new NameRolls();
        due(20, "text of " + s, text(x, 0, 0, s), at < 0 ? 0 : -100 - at);
        due(20, "TEXTS behind " + s, x.count(6), at < 0 ? 1 : 0);
        due(20, "THE TAPE behind " + s, x.count(9), 0);
    }

    private static String times(String s, int n) {
        StringBuilder b = new StringBuilder();
        for (int i = 0; i < n; i++) {
            b.append(s);
        }
        return b.toString();
    }

    private static void faults() {
        for (char c = 0; c < 256; c++) {
            String s = String.valueOf(c);
            boolean isName = "kgynadbct".indexOf(c) >= 0;
            boolean isDigit = c >= '0' && c <= '9';
            boolean opens = c == '!' || c == '(';
            boolean joins = ";?|&<=>+-*/".indexOf(c) >= 0;
            fault(s, isName || isDigit ? -1 : opens ? 1 : 0);
            fault("k" + s, joins ? 2 : 1);
            fault("1" + s, isDigit ? -1 : joins ? 2 : 1);
            fault("1234" + s, joins ? 5 : 4);
            fault("(k" + s, c == ')' ? -1 : joins && c != ';' && c != '?' ? 3 : 2);
            fault("k+" + s, isName || isDigit ? -1 : opens ? 3 : 2);
            fault("k?k" + s, joins && c != '?' ? 4 : 3);
            fault("k<k" + s, ";?|&+-*/".indexOf(c) >= 0 ? 4 : 3);
            fault("(((((((" + s, isName || isDigit ? 8 : opens ? 8 : 7);
            fault("((((((((" + s, isName || isDigit ? 9 : 8);
            fault("!!!!!!!!" + s, isName || isDigit ? -1 : 8);
            fault("!!!!!!!(k)+(((((((" + s, isName || isDigit || opens ? 19 : 18);
        }
        faultsOfLength();
    }

    private static void faultsOfLength() {
        fault(times("k+", 79) + "1", -1);
        fault(times("k+", 79) + "kk", 159);
        fault(times("k+", 80), 160);
        fault(times("0;", 79) + "1", -1);
        fault(times(";", 160), 0);
        fault(times("k;", 80), 160);
        fault(times("(k);", 39) + "(k)", -1);
        fault(times("((((((((k))))))))|", 8) + "k", -1);
        fault(times("!!!!!!!!k|", 15) + "!!!!!!!!!k", 158);
        fault(times("1234+", 31) + "12345", 159);
        fault("k?1;k?2;k?3", -1);
        fault("k?1;?2", 4);
        fault("k?;1", 2);
        fault("k<(k<(k<(k<(k<(k<(k<(k<k)))))))", -1);
        fault("k=!k=k", 4);
        fault("k=!(k=k)", -1);
        fault("00000", 4);
        fault("0000", -1);
        fault("k\n", 1);
        fault(" k", 0);
        fault("k +1", 1);
        fault("(k", 2);
        fault("((k)", 4);
        fault("(k))", 3);
        fault("!", 1);
        fault("k&", 2);
    }

    private static void inForce() {
        int[][] wrongDays = {{-1, 0}, {601, 0}, {LEAST, 0}, {MOST, 0}, {0, -1}, {0, 601}, {0, LEAST}, {0, MOST}};
        for (int[] w : wrongDays) {
            refused(21, NONE, "inForce(0, " + w[0] + ", " + w[1] + ")", EdgeTests::rich,
                x -> x.inForce(0, w[0], w[1]));
            refused(22, NO_VALUE, "says(0, 0, 0, " + w[0] + ", " + w[1] + ")", EdgeTests::rich,
                x -> x.says(0, 0, 0, w[0], w[1]));
            refused(23, NONE, "owed(0, " + w[0] + ", " + w[1] + ")", EdgeTests::rich, x -> x.owed(0, w[0], w[1]));
            refused(24, NONE, "mayStay(4, " + w[0] + ", " + w[1] + ")", EdgeTests::rich,
                x -> x.mayStay(4, w[0], w[1]));
            refused(25, NONE, "worth(0, 0, " + w[0] + ", " + w[1] + ")", EdgeTests::rich,
                x -> x.worth(0, 0, w[0], w[1]));
        }
        refused(21, NOT, "inForce(31, 600, 600)", EdgeTests::rich, x -> x.inForce(31, 600, 600));
        NameRolls x = at(600);
        text(x, 0, 600, "1");
        text(x, 0, 0, "2");
        text(x, 10, 600, "3");
        due(21, "made on DAY 600", x.inForce(0, 600, 600), 1);
        due(21, "not as known on 599", x.inForce(0, 600, 599), NOT);
        due(21, "the one made last", x.inForce(0, 599, 600), 1);
        due(21, "from DAY 600", x.inForce(10, 600, 600), 2);
        due(21, "not from 599", x.inForce(10, 599, 600), NOT);
        NameRolls y = new NameRolls();
        text(y, 0, 0, "1");
        text(y, 0, 5, "2");
        due(21, "from 5, on 4 the one ahead", y.inForce(0, 4, 0), 0);
        due(21, "from 5, on 5", y.inForce(0, 5, 0), 1);
        text(y, 0, 2, "3");
        due(21, "made last, though from a DAY ahead", y.inForce(0, 600, 600), 2);
    }

    private static void says() {
        int[][] wrongOnes = {{-1, 0, 0}, {4, 0, 0}, {LEAST, 0, 0}, {MOST, 0, 0}, {0, -1, 0}, {0, 16, 0}, {0, LEAST, 0},
            {0, MOST, 0}, {0, 0, -1}, {0, 0, 2}, {0, 0, 9}, {0, 0, 12}, {0, 0, 20}, {0, 0, 21}, {0, 0, -10},
            {0, 0, LEAST}, {0, 0, MOST}};
        for (int[] w : wrongOnes) {
            refused(22, NO_VALUE, "says(" + w[0] + ", " + w[1] + ", " + w[2] + ", 0, 0)", EdgeTests::rich,
                x -> x.says(w[0], w[1], w[2], 0, 0));
        }
        NameRolls x = land();
        x.person(1, 0, 30, -1, 0);
        text(x, 0, 600, times("0?1;", 39) + "7");
        due(22, "the 40th LINE", x.says(0, 0, 0, 0, 0), 7);
        due(22, "its place", x.says(0, 0, 1, 0, 0), 39);
        text(x, 0, 600, times("0;", 79) + "1");
        due(22, "the first LINE without a first E", x.says(1, 0, 0, 0, 0), 0);
        due(22, "its place", x.says(1, 0, 11, 0, 0), 0);
        text(x, 0, 600, times("0?1;", 39) + "0?1");
        due(22, "none of the LINES", x.says(2, 0, 10, 0, 0), 0);
        due(22, "none of the LINES", x.says(2, 0, 11, 0, 0), -1);
        text(x, 0, 600, "0?1;0-1?5;7");
        due(22, "less than 0 is not 0", x.says(3, 0, 0, 0, 0), 5);
        due(22, "its place", x.says(3, 0, 1, 0, 0), 1);
        text(x, 0, 600, "1?0;7");
        due(22, "a LINE that gives 0 counts", x.says(4, 0, 0, 600, 600), 0);
        due(22, "its place", x.says(4, 0, 1, 600, 600), 0);
    }

    private static void gives(NameRolls x, int person, String s, int side, int d, int k, int want) {
        int t = text(x, 22, 0, s);
        due(22, s + " of " + person + " for " + side + " on " + d + ", " + k, x.says(t, person, 10 * side, d, k), want);
    }

    private static void saysOfNames() {
        NameRolls x = new NameRolls();
        x.camp(0, 9);
        x.camp(1, 9);
        x.road(0, 16, 1);
        x.days(10);
        for (int kind = 1; kind <= 7; kind++) {
            x.person(kind, 0, kind == 1 ? 0 : 99, -1, kind == 2 ? 9 : 0);
        }
        x.person(3, 1, 5, -1, 0);
        x.person(3, 0, 5, -1, 0);
        text(x, 0, 0, "k*100+a");
        for (int kind = 1; kind <= 7; kind++) {
            due(22, "KIND and AGE", x.says(0, kind - 1, 0, 10, 10), 100 * kind + (kind == 1 ? 0 : 99));
        }
        gives(x, 0, "d", 0, 9, 10, 0);
        gives(x, 0, "d", 0, 0, 10, 0);
        gives(x, 0, "d", 0, 10, 10, 0);
        gives(x, 0, "d", 0, 11, 10, 1);
        gives(x, 0, "d", 0, 600, 10, 590);
        gives(x, 0, "c*10+t", 1, 0, 0, 82);
        gives(x, 7, "c*10+t", 0, 0, 0, 11);
        x.move(8, 16);
        gives(x, 8, "c*10+t", 0, 0, 0, 0);
        gives(x, 0, "c*10+t", 0, 0, 0, 71);
        x.become(2, 6);
        gives(x, 0, "c*10+t", 0, 0, 0, 60);
        gives(x, 2, "c*10+t", 0, 0, 0, 0);
        gives(x, 2, "d", 0, 20, 0, 10);
        x.promise(1, 1, 10);
        x.promise(1, 1, 11);
        x.days(1);
        gives(x, 0, "b", 0, 10, 0, 0);
        gives(x, 0, "b", 0, 11, 0, 1);
        x.days(1);
        gives(x, 0, "b", 0, 11, 0, 1);
        gives(x, 0, "b", 0, 12, 0, 2);
        gives(x, 0, "b", 0, 600, 0, 2);
        gives(x, 0, "b", 1, 600, 0, 0);
    }

    private static void arithmetic() {
        NameRolls x = land();
        x.person(1, 0, 30, -1, 0);
        gives(x, 0, "8192*8192*32", 0, 0, 0, LEAST);
        gives(x, 0, "8192*8192*32-1", 0, 0, 0, MOST);
        gives(x, 0, "8192*8192*32/(0-1)", 0, 0, 0, LEAST);
        gives(x, 0, "(8192*8192*32-1)+1", 0, 0, 0, LEAST);
        gives(x, 0, "8192*8192*32*(0-1)", 0, 0, 0, LEAST);
        gives(x, 0, "0-8192*8192*32", 0, 0, 0, LEAST);
        gives(x, 0, "8192*8192*32*2", 0, 0, 0, 0);
        gives(x, 0, "(8192*8192*32-1)*3", 0, 0, 0, MOST * 3);
        gives(x, 0, "8192*8192*32<0", 0, 0, 0, 1);
        gives(x, 0, "8192*8192*32/7", 0, 0, 0, LEAST / 7);
        NameRolls y = land();
        y.person(1, 0, 30, -1, 0);
        gives(y, 0, "(0-7)/2*100+7/2", 0, 0, 0, -297);
        gives(y, 0, "7/(0-2)*100-(0-7)/(0-2)", 0, 0, 0, -303);
        gives(y, 0, "0/0+9/0+(0-9)/0", 0, 0, 0, 0);
        gives(y, 0, "a/(a-30)&5", 0, 0, 0, 0);
        gives(y, 0, "9-3-2*10+(7-(3-1))", 0, 0, 0, -9);
        gives(y, 0, "100/10/5*3", 0, 0, 0, 6);
        gives(y, 0, "2*3/4*8", 0, 0, 0, 8);
        gives(y, 0, "1|0&0", 0, 0, 0, 1);
        gives(y, 0, "(1|0)&0", 0, 0, 0, 0);
        gives(y, 0, "3&4|0", 0, 0, 0, 1);
        gives(y, 0, "2=1+1&3>2", 0, 0, 0, 1);
        gives(y, 0, "1+1<3+(2>1)", 0, 0, 0, 1);
        gives(y, 0, "!0+!1+!9+!!5+!(0-1)", 0, 0, 0, 2);
        gives(y, 0, "!0*7", 0, 0, 0, 7);
        gives(y, 0, "9999+0009", 0, 0, 0, 10008);
        gives(y, 0, "(3<4)*32+(4<4)*16+(4>3)*8+(4>4)*4+(4=4)*2+(4=3)", 0, 0, 0, 42);
        gives(y, 0, "0|0", 0, 0, 0, 0);
        gives(y, 0, "0|7", 0, 0, 0, 1);
    }

    private static void owed() {
        int[] nobody = {-1, 16, LEAST, MOST};
        for (int p : nobody) {
            refused(23, NONE, "owed(" + p + ", 0, 0)", EdgeTests::rich, x -> x.owed(p, 0, 0));
            refused(24, NONE, "mayStay(" + p + ", 0, 0)", EdgeTests::rich, x -> x.mayStay(p, 0, 0));
            refused(25, NONE, "worth(" + p + ", 0, 0, 0)", EdgeTests::rich, x -> x.worth(p, 0, 0, 0));
        }
        NameRolls x = land();
        x.person(1, 0, 30, -1, 0);
        due(23, "no TEXT", x.owed(0, 600, 600), 0);
        text(x, 20, 0, "1");
        text(x, 30, 0, "1");
        text(x, 1, 0, "1");
        text(x, 2, 0, "1");
        due(23, "orders and other USES do not count", x.owed(0, 600, 600), 0);
        text(x, 10, 3, times("0?1;", 39) + "1");
        due(23, "PARTY 1's 40th LINE", x.owed(0, 3, 0), 239);
        due(23, "a DAY ahead", x.owed(0, 2, 0), 0);
        text(x, 0, 4, times("0?1;", 39) + "0-1");
        due(23, "PARTY 0's 40th LINE", x.owed(0, 4, 0), 139);
        due(23, "a DAY ahead", x.owed(0, 3, 0), 239);
        text(x, 0, 5, "0");
        due(23, "if PARTY 0's gives 0, PARTY 1's", x.owed(0, 5, 0), 239);
        text(x, 0, 6, "0?5");
        due(23, "if PARTY 0's has no LINE, too", x.owed(0, 6, 0), 239);
        text(x, 10, 0, "0?5");
        due(23, "neither has one", x.owed(0, 6, 0), 0);
        due(23, "but PARTY 0's has on DAY 4", x.owed(0, 4, 0), 139);
        x.become(0, 8);
        due(23, "in any state", x.owed(0, 4, 0), 139);
    }

    private static void mayStay() {
        NameRolls x = land();
        x.days(1);
        x.person(1, 2, 30, -1, 0);
        text(x, 11, 4, "1");
        due(24, "it has not ASKED", x.mayStay(0, 600, 600), 0);
        x.fact(0, 1, 1);
        due(24, "no TEXT yet", x.mayStay(0, 3, 1), 0);
        due(24, "from DAY 4", x.mayStay(0, 4, 1), 1);
        due(24, "not KNOWN a DAY ahead", x.mayStay(0, 4, 0), 0);
        text(x, 1, 0, "y=1&k=1");
        due(24, "PARTY 0's, if there is none of PARTY 1", x.mayStay(0, 3, 1), 1);
        text(x, 11, 5, "0");
        due(24, "PARTY 1's gives 0", x.mayStay(0, 5, 1), 0);
        text(x, 11, 6, "0?1");
        due(24, "PARTY 1's has no LINE", x.mayStay(0, 6, 1), 0);
        text(x, 11, 7, "0-1");
        due(24, "less than 0 is not 0", x.mayStay(0, 7, 1), 1);
        text(x, 11, 8, "y*2");
        due(24, "as its holder knows", x.mayStay(0, 8, 1), 1);
        x.days(1);
        x.fact(0, 1, 0);
        due(24, "it ASKED no more", x.mayStay(0, 7, 2), 0);
        due(24, "as KNOWN the DAY ahead", x.mayStay(0, 7, 1), 1);
        x.move(0, 16);
        due(24, "in any state", x.mayStay(0, 7, 1), 1);
    }

    private static void worth() {
        for (int side : NOT_SIDES) {
            refused(25, NONE, "worth(0, " + side + ", 0, 0)", EdgeTests::rich, x -> x.worth(0, side, 0, 0));
        }
        NameRolls x = land();
        x.person(1, 0, 30, -1, 0);
        x.person(1, 2, 31, -1, 0);
        due(25, "no TEXT", x.worth(0, 0, 600, 600), 1);
        text(x, 2, 0, "5");
        text(x, 12, 0, "5");
        text(x, 20, 0, "5");
        text(x, 21, 0, "5");
        due(25, "others' TEXTS and other USES do not count", x.worth(0, 0, 600, 600), 1);
        String[] texts = {"998", "999", "1000", "1", "0", "0-1", "8192*8192*32", "8192*8192*32-1", "0?5"};
        int[] want = {998, 999, 999, 1, 0, 0, 0, 999, 0};
        for (int i = 0; i < texts.length; i++) {
            text(x, 32, i, texts[i]);
            due(25, texts[i], x.worth(0, 1, i, 0), want[i]);
            due(25, texts[i] + " of the other's", x.worth(1, 1, i, 0), want[i]);
            due(25, texts[i] + " is not SIDE 0's", x.worth(1, 0, i, 0), 1);
        }
        x.days(1);
        text(x, 22, 0, "a");
        due(25, "not as known ahead", x.worth(1, 0, 0, 0), 1);
        due(25, "as known then", x.worth(1, 0, 0, 1), 31);
    }

    // ---- promises 26 to 31

    private static void lists() {
        rows();
        words();
        canBe();
        same();
        sameByLetters();
        joined();
        clashes();
        takenLists();
        takenListsByBlank();
        takenListsFull();
    }

    /** A word in base 28; ? stands for a letter that cannot be read. */
    private static int word(String s) {
        int v = 0;
        for (int i = 0; i < s.length(); i++) {
            v = v * 28 + (s.charAt(i) == '?' ? 27 : s.charAt(i) - 'a' + 1);
        }
        return v;
    }

    private static NameRolls rows100() {
        NameRolls x = rich();
        for (int i = 3; i < 100; i++) {
            due(26, "row", x.row(i % 2, 1, 20, 5), i);
        }
        return x;
    }

    private static void rows() {
        int[][] wrongOnes = {{-1, 1, 0, 0}, {2, 1, 0, 0}, {LEAST, 1, 0, 0}, {MOST, 1, 0, 0}, {0, 0, 0, 0},
            {0, -1, 0, 0}, {0, LEAST, 0, 0}, {0, MOST, 0, 0}, {0, 28, 0, 0}, {0, 28 * 28, 0, 0}, {0, 28 * 28 + 1, 0, 0},
            {0, 27 * 28, 0, 0}, {0, 28 * 28 * 28 * 28 * 28, 0, 0}, {0, 28 * 28 * 28 * 28 * 28 + 1, 0, 0},
            {0, 28 * 28 * 28 * 28, 0, 0}, {0, 1, -2, 0}, {0, 1, 100, 0}, {0, 1, LEAST, 0}, {0, 1, MOST, 0},
            {0, 1, 0, -2}, {0, 1, 0, 100}, {0, 1, 0, LEAST}, {0, 1, 0, MOST}};
        for (int[] w : wrongOnes) {
            refused(26, NONE, "row(" + w[0] + ", " + w[1] + ", " + w[2] + ", " + w[3] + ")", EdgeTests::rich,
                x -> x.row(w[0], w[1], w[2], w[3]));
        }
        refused(26, FULL, "row 100", EdgeTests::rows100, x -> x.row(0, 1, 1, 1));
        refused(26, NONE, "row 100 without a WORD", EdgeTests::rows100, x -> x.row(0, 0, 1, 1));
        refused(26, NONE, "row 100 of AGE 100", EdgeTests::rows100, x -> x.row(0, 1, 100, 1));
        NameRolls x = new NameRolls();
        due(26, "AGE -1, UNIT -1", x.row(0, 1, -1, -1), 0);
        due(26, "AGE 0, UNIT 0", x.row(1, 1, 0, 0), 1);
        due(26, "AGE 99, UNIT 99", x.row(1, 1, 99, 99), 2);
        due(26, "what is not told does not matter", x.same(0, 1, 0), 1);
        due(26, "nor so", x.same(0, 2, 0), 1);
    }

    private static void words() {
        NameRolls x = new NameRolls();
        int made = 0;
        for (int w = 1; w <= 27; w++) {
            due(26, "a letter " + w, x.row(0, w, 0, 0), made++);
        }
        for (int length = 2; length <= 5; length++) {
            due(26, "so many letters a", x.row(1, word(times("a", length)), 0, 0), made++);
            due(26, "so many letters z", x.row(1, word(times("z", length)), 0, 0), made++);
            due(26, "so many that cannot be read", x.row(1, word(times("?", length)), 0, 0), made++);
            int base = word(times("a", length)) - 1;
            due(26, "without the last letter", x.row(1, base, 0, 0), NONE);
            for (int place = 1; place < length; place++) {
                StringBuilder b = new StringBuilder();
                int gap = 0;
                for (int i = 0; i < length; i++) {
                    gap = gap * 28 + (i == place ? 0 : 5);
                    b.append(i == place ? '0' : 'e');
                }
                due(26, "a gap, " + b, x.row(1, gap, 0, 0), NONE);
            }
        }
        due(26, "the greatest word", x.row(0, 17210367, 0, 0), made++);
        due(26, "one beyond", x.row(0, 17210368, 0, 0), NONE);
        due(26, "six letters", x.row(0, word("aaaaaa"), 0, 0), NONE);
        due(26, "seven letters", x.row(0, word("aaaaaaa"), 0, 0), NONE);
        due(26, "ROWS", x.count(7), made);
    }

    private static void canBe() {
        int[][] wrongOnes = {{0, 1, 1}, {27, 1, 1}, {-1, 1, 1}, {LEAST, 1, 1}, {MOST, 1, 1}, {1, 0, 1}, {1, 27, 1},
            {1, -1, 1}, {1, LEAST, 1}, {1, MOST, 1}, {1, 1, -1}, {1, 1, 2}, {1, 1, LEAST}, {1, 1, MOST}};
        for (int[] w : wrongOnes) {
            refused(27, NONE, "canBe(" + w[0] + ", " + w[1] + ", " + w[2] + ")", EdgeTests::rich,
                x -> x.canBe(w[0], w[1], w[2]));
        }
        NameRolls x = new NameRolls();
        int[] ends = {1, 26};
        for (int a : ends) {
            for (int b : ends) {
                due(27, "at first", x.canBe(a, b, 0), a == b ? 1 : 0);
                due(27, "told 0", x.canBe(a, b, 1), 0);
                due(27, "told 1", x.canBe(a, b, 1), 1);
                due(27, "told 1 again", x.canBe(a, b, a == b ? 1 : 0), 1);
            }
        }
        due(27, "each pair its own", x.canBe(1, 26, 0), 0);
        due(27, "each pair its own", x.canBe(26, 26, 0), 1);
    }

    private static void same() {
        int[][] wrongOnes = {{-1, 1, 0}, {0, -1, 0}, {3, 1, 0}, {0, 3, 0}, {LEAST, 1, 0}, {0, MOST, 0}, {0, 0, 0},
            {1, 1, 0}, {1, 2, 0}, {2, 1, 1}, {0, 1, -1}, {0, 1, 2}, {0, 1, LEAST}, {0, 1, MOST}};
        for (int[] w : wrongOnes) {
            refused(28, NONE, "same(" + w[0] + ", " + w[1] + ", " + w[2] + ")", EdgeTests::rich,
                x -> x.same(w[0], w[1], w[2]));
        }
        // Row 0 against a row of the other side: word, AGE, UNIT, whether SAME, and why not.
        int[][] due = {
            {word("ab"), 30, 5, 2, 0}, {word("ab"), 29, 5, 2, 0}, {word("ab"), 31, 5, 2, 0},
            {word("ab"), 28, 5, 0, 3}, {word("ab"), 32, 5, 0, 3}, {word("ab"), 30, 4, 0, 4},
            {word("ab"), 30, 6, 0, 4}, {word("ab"), 32, 6, 0, 3}, {word("ac"), 32, 6, 0, 2},
            {word("bb"), 30, 5, 0, 2}, {word("a"), 32, 6, 0, 1}, {word("abb"), 32, 6, 0, 1},
            {word("ab"), -1, 5, 1, 0}, {word("ab"), 30, -1, 1, 0}, {word("ab"), -1, -1, 1, 0},
            {word("ab"), -1, 6, 0, 4}, {word("ab"), 28, -1, 0, 3}, {word("a?"), 30, 5, 1, 0},
            {word("?b"), 31, 5, 1, 0}, {word("??"), 30, 5, 1, 0}, {word("??"), 30, 6, 0, 4},
            {word("?c"), 30, 5, 0, 2}, {word("c?"), 30, 5, 0, 2}, {word("?"), 30, 5, 0, 1},
            {word("???"), -1, -1, 0, 1}, {word("??"), -1, -1, 1, 0}};
        NameRolls x = new NameRolls();
        x.row(0, word("ab"), 30, 5);
        for (int[] d : due) {
            int row = x.row(1, d[0], d[1], d[2]);
            due(28, "same(0, " + row + ", 0)", x.same(0, row, 0), d[3]);
            due(28, "same(" + row + ", 0, 0)", x.same(row, 0, 0), d[3]);
            due(28, "same(0, " + row + ", 1)", x.same(0, row, 1), d[4]);
            due(28, "same(" + row + ", 0, 1)", x.same(row, 0, 1), d[4]);
        }
    }

    private static void sameByLetters() {
        NameRolls x = new NameRolls();
        x.row(0, word("abcde"), 0, 0);
        for (int place = 0; place < 5; place++) {
            StringBuilder b = new StringBuilder("abcde");
            b.setCharAt(place, 'z');
            x.row(1, word(b.toString()), 0, 0);
            due(28, "another letter at " + place, x.same(0, 2 * place + 1, 1), 2);
            b.setCharAt(place, '?');
            x.row(1, word(b.toString()), 0, 0);
            due(28, "none that can be read at " + place, x.same(0, 2 * place + 2, 0), 1);
        }
        x.canBe(5, 26, 1);
        due(28, "e can be z, if told", x.same(0, 9, 0), 2);
        x.row(0, word("z"), 0, 0);
        x.row(1, word("e"), 0, 0);
        due(28, "but z cannot be e", x.same(11, 12, 1), 2);
        x.canBe(26, 26, 0);
        x.row(1, word("z"), 0, 0);
        due(28, "a letter that can't be its own number", x.same(11, 13, 1), 2);
        NameRolls y = new NameRolls();
        y.row(0, word("?"), 0, 99);
        y.row(1, word("?"), 1, 99);
        y.row(0, word("a"), 99, 0);
        y.row(1, word("a"), 98, 0);
        y.row(1, word("a"), 97, 0);
        due(28, "neither can be read", y.same(0, 1, 0), 1);
        due(28, "one of both can't be read", y.same(0, 3, 1), 3);
        due(28, "AGES 99 and 98, UNIT 0", y.same(2, 3, 0), 2);
        due(28, "AGES 99 and 97", y.same(2, 4, 1), 3);
    }

    private static void joined() {
        int[] wrongOnes = {-1, 3, LEAST, MOST};
        for (int row : wrongOnes) {
            refused(29, NONE, "joined(" + row + ")", EdgeTests::rich, x -> x.joined(row));
        }
        due(29, "no ROWS", new NameRolls().joined(0), NONE);
        NameRolls x = new NameRolls();
        x.row(0, 1, 1, 1);
        due(29, "one alone", x.joined(0), 1);
        x.row(0, 1, 1, 1);
        due(29, "two of one SIDE", x.joined(1), 1);
        x.row(1, 1, 1, -1);
        due(29, "PERHAPS does not lead on", x.joined(0), 1);
        x.row(1, 1, 2, 1);
        due(29, "SURE does", x.joined(0), 3);
        due(29, "to all of them", x.joined(3), 3);
        NameRolls y = new NameRolls();
        for (int i = 0; i < 100; i++) {
            y.row(i % 2, 1, i, 5);
        }
        due(29, "a chain of 100", y.joined(0), 100);
        due(29, "from its end", y.joined(99), 100);
        due(30, "its CLASHES", y.clash(0), 50 * 50 - 99 + 2 * (50 * 49 / 2 - 49));
        due(30, "the first", y.clash(1), 0);
        due(30, "and", y.clash(2), 3);
    }

    private static void clashes() {
        int[] wrongOnes = {-1, 3, LEAST, MOST};
        for (int what : wrongOnes) {
            refused(30, NONE, "clash(" + what + ")", EdgeTests::rich, x -> x.clash(what));
        }
        refused(30, NOT, "clash(1) of none", EdgeTests::rich, x -> x.clash(1));
        refused(30, NOT, "clash(2) of none", EdgeTests::rich, x -> x.clash(2));
        due(30, "clash(0) of none", rich().clash(0), 0);
        // Rows 0 and 2 of one side, joined by 1 and 3 of the other; the row 2 by AGE.
        int[][] due = {{30, 0}, {31, 0}, {32, 0}, {33, NOT}, {34, NOT}};
        for (int[] d : due) {
            NameRolls x = new NameRolls();
            x.row(1, 1, 30, 5);
            x.row(0, 1, 31, 5);
            x.row(1, 1, d[0], 5);
            due(30, "joined with AGE " + d[0], x.joined(0), d[1] == 0 ? 3 : 2);
            due(30, "CLASHES with AGE " + d[0], x.clash(0), 0);
        }
        NameRolls x = new NameRolls();
        x.row(1, 9, 30, 5);
        x.row(0, 1, 30, 5);
        x.row(1, 1, 31, 5);
        x.row(0, 1, 32, 5);
        x.row(1, 1, 32, 5);
        due(30, "of unlike SIDES, AGES that differ by 2", x.clash(0), 1);
        due(30, "the lesser ROW", x.clash(1), 1);
        due(30, "the greater ROW", x.clash(2), 4);
        x.row(0, 1, 33, 5);
        due(30, "of one SIDE, AGES that differ by 3", x.clash(0), 3);
        x.row(1, 1, 30, 6);
        due(30, "not JOINED, so no CLASH", x.clash(0), 3);
        x.row(0, 1, -1, 5);
        due(30, "PERHAPS, so no CLASH", x.clash(0), 3);
    }

    private static NameRolls shorts(int... values) {
        NameRolls x = new NameRolls();
        x.table(3, 1, values.length);
        for (int i = 0; i < values.length; i++) {
            x.item(3, i, values[i]);
        }
        return x;
    }

    private static void takenLists() {
        int[][] wrongOnes = {{-1, 0, 0, 1}, {2, 0, 0, 1}, {LEAST, 0, 0, 1}, {MOST, 0, 0, 1}, {0, -1, 0, 1},
            {0, 4, 0, 1}, {0, LEAST, 0, 1}, {0, MOST, 0, 1}, {0, 0, 0, 0}, {0, 0, 0, 21}, {0, 0, 0, -1},
            {0, 0, 0, LEAST}, {0, 0, 0, MOST}, {0, 2, 0, 0}, {2, 1, 0, 1}};
        for (int[] w : wrongOnes) {
            refused(31, NONE, "list(" + w[0] + ", " + w[1] + ", " + w[2] + ", " + w[3] + ")", EdgeTests::rich,
                x -> x.list(w[0], w[1], w[2], w[3]));
        }
        refused(31, CAST, "list of bytes", EdgeTests::rich, x -> x.list(0, 1, 0, 1));
        refused(31, CAST, "list of nothing", EdgeTests::rich, x -> x.list(0, 2, 0, 1));
        refused(31, CAST, "list of nothing from -1", EdgeTests::rich, x -> x.list(0, 2, -1, 1));
        int[] nowhere = {-1, LEAST, 7, 8, 9, 60, MOST, MOST - 1, MOST - 2, LEAST + 1};
        for (int i : nowhere) {
            refused(31, 0, "list from " + i, EdgeTests::rich, x -> x.list(0, 0, i, 20));
        }
        int[] sixty = new int[60];
        for (int i = 0; i < 60; i++) {
            sixty[i] = 1 + i % 3;
        }
        due(31, "20 threes", shorts(sixty).list(0, 3, 0, 20), 20);
        due(31, "19 threes", shorts(sixty).list(0, 3, 0, 19), 19);
        due(31, "1 three", shorts(sixty).list(0, 3, 0, 1), 1);
        due(31, "from 3", shorts(sixty).list(0, 3, 3, 20), 19);
        due(31, "from 1, two short", shorts(sixty).list(0, 3, 1, 20), 19);
        due(31, "from 2, one short", shorts(sixty).list(1, 3, 2, 20), 19);
        due(31, "the last three", shorts(sixty).list(1, 3, 57, 20), 1);
        due(31, "not whole", shorts(sixty).list(1, 3, 58, 20), 0);
        due(31, "no items", shorts().list(1, 3, 0, 20), 0);
        due(31, "two items", shorts(1, 1).list(1, 3, 0, 20), 0);
        due(31, "three items", shorts(1, 1, 1).list(1, 3, 0, 20), 1);
        due(31, "five items", shorts(1, 1, 1, 1, 1).list(1, 3, 0, 20), 1);
    }

    private static void takenListsByBlank() {
        int[][] taken = {{0, 0, 1}, {99, 99, 27}, {-1, 0, 1}, {0, -1, 1}, {-1, -1, 26}};
        for (int[] t : taken) {
            due(31, t[0] + " " + t[1] + " " + t[2], shorts(t).list(0, 3, 0, 20), 1);
        }
        int[][] ends = {{-2, 0, 1}, {100, 0, 1}, {0, -2, 1}, {0, 100, 1}, {0, 0, 0}, {0, 0, 28}, {0, 0, -1},
            {32767, 0, 1}, {0, -32768, 1}, {0, 0, 257}};
        for (int[] t : ends) {
            NameRolls x = shorts(1, 1, 1, t[0], t[1], t[2], 1, 1, 1);
            due(31, "it ends at " + t[0] + " " + t[1] + " " + t[2], x.list(0, 3, 0, 20), 1);
            due(31, "ROWS", x.count(7), 1);
        }
        int[] blanks = {0, 5, 99, 100, -2, 32767, -32768};
        for (int blank : blanks) {
            NameRolls x = shorts(blank, blank, 1, -1, 3, 1);
            due(31, "the BLANK at first", x.blank(blank), -1);
            due(31, "not told", x.list(0, 3, 0, 20), 1);
            x.row(1, 1, 99, 98);
            x.row(1, 1, 0, 1);
            due(31, "so it may be any", x.same(0, 1, 0) + x.same(0, 2, 0), 2);
            due(31, "-1 is not so now", x.list(0, 3, 3, 20), 0);
        }
        NameRolls x = shorts(3, 4, 5);
        x.blank(5);
        x.list(0, 3, 0, 1);
        x.row(1, 5, 3, 4);
        due(31, "a letter is no BLANK", x.same(0, 1, 0), 2);
        x.blank(65536 + 3);
        x.list(0, 3, 0, 1);
        due(31, "a BLANK that no short can be", x.same(2, 1, 0), 2);
        x.blank(-1);
        x.item(3, 2, 27);
        x.list(0, 3, 0, 1);
        due(31, "a letter that cannot be read", x.same(3, 1, 0), 1);
    }

    private static void takenListsFull() {
        refused(31, 0, "list without room", EdgeTests::rows100, x -> x.list(0, 0, 0, 1));
        NameRolls x = shorts(1, 1, 1, 2, 2, 2, 3, 3, 3);
        for (int i = 0; i < 98; i++) {
            x.row(0, 1, 1, 1);
        }
        due(31, "room for two", x.list(1, 3, 0, 3), 2);
        due(31, "ROWS", x.count(7), 100);
        due(31, "the first of them", x.joined(98), 99);
        due(31, "the other", x.joined(99), 1);
    }

    // ---- promises 32 to 36

    private static void trades() {
        offers();
        ratios();
        judgeBits();
        judgeOrder();
        judgeChildren();
        judgeDoctors();
        best();
        bestOf();
    }

    /** Seven of each side on the lists; of SIDE 0 persons 0 to 6, of SIDE 1 8 to 14; 7 and 15 are not. */
    private static NameRolls sevens() {
        NameRolls x = new NameRolls();
        x.camp(0, 9);
        x.camp(1, 9);
        x.road(0, 16, 1);
        for (int i = 0; i < 16; i++) {
            x.person(1, i / 8, 10 + i, -1, 0);
        }
        for (int i = 0; i < 7; i++) {
            due(32, "offer", x.offer(i), i + 1);
            due(32, "offer", x.offer(8 + i), i + 1);
        }
        return x;
    }

    private static void offers() {
        int[] wrongOnes = {-1, 16, LEAST, MOST, 0, 5, 3, 6};
        for (int p : wrongOnes) {
            refused(32, NONE, "offer(" + p + ")", EdgeTests::rich, x -> x.offer(p));
        }
        for (int p = 8; p <= 15; p++) {
            int person = p;
            refused(32, STATE, "offer of one not IN CAMP", EdgeTests::rich, x -> x.offer(person));
        }
        refused(32, FULL, "an eighth", EdgeTests::sevens, x -> x.offer(7));
        refused(32, FULL, "an eighth of SIDE 1", EdgeTests::sevens, x -> x.offer(15));
        refused(32, NONE, "one of seven, again", EdgeTests::sevens, x -> x.offer(6));
        Supplier<NameRolls> gone = () -> {
            NameRolls x = sevens();
            x.become(7, 6);
            x.become(3, 6);
            return x;
        };
        refused(32, STATE, "an eighth, not IN CAMP", gone, x -> x.offer(7));
        refused(32, NONE, "one of seven, not IN CAMP", gone, x -> x.offer(3));
    }

    private static void ratios() {
        int[] wrongOnes = {0, -1, 100, LEAST, MOST};
        for (int v : wrongOnes) {
            refused(33, NONE, "ratio(" + v + ")", EdgeTests::rich, x -> x.ratio(v));
        }
        NameRolls x = new NameRolls();
        due(33, "10 at first", x.ratio(1), 10);
        due(33, "the least", x.ratio(99), 1);
        due(33, "the greatest", x.ratio(2), 99);
        due(33, "told", x.ratio(2), 2);
    }

    private static void judgeBits() {
        int[][] wrongOnes = {{4, 0}, {8, 0}, {0, 4}, {0, 8}, {-1, 0}, {0, -1}, {LEAST, 0}, {0, LEAST}, {MOST, 0},
            {0, MOST}, {128, 0}, {1 << 30, 0}};
        for (int[] w : wrongOnes) {
            refused(34, NONE, "judge(" + w[0] + ", " + w[1] + ")", () -> {
                NameRolls x = sevens();
                x.best();
                x.offer(0);
                x.offer(1);
                x.offer(8);
                x.offer(9);
                return x;
            }, x -> x.judge(w[0], w[1]));
        }
        int[][] beyond = {{128, 0}, {0, 128}, {255, 127}, {-1, 127}, {127, 256}};
        for (int[] w : beyond) {
            refused(34, NONE, "judge(" + w[0] + ", " + w[1] + ") of sevens", EdgeTests::sevens,
                x -> x.judge(w[0], w[1]));
        }
        due(34, "all seven of both", sevens().judge(127, 127), 0);
        due(34, "the seventh of both", sevens().judge(64, 64), 0);
        due(34, "one for none", sevens().judge(64, 0), 3);
        due(34, "none for one", sevens().judge(0, 64), 4);
        due(34, "none", sevens().judge(0, 0), 0);
        NameRolls x = new NameRolls();
        due(34, "none of none", x.judge(0, 0), 0);
        due(34, "a bit of none", x.judge(1, 0), NONE);
        due(34, "a bit of none", x.judge(0, 1), NONE);
        refused(34, 0, "judge(127, 127)", EdgeTests::sevens, y -> y.judge(127, 127));
        refused(34, 3, "judge(127, 63)", EdgeTests::sevens, y -> y.judge(127, 63));
    }

    /**
     * On SIDE 0's list a HELD of 10, a STAYER of 20 who MAY STAY, a CHILD of 5 with the first one, a DOCTOR of 40, a
     * SICK one of 15, and a HELD who has been LET GO; on SIDE 1's a HELD of 30, one of 60, one who has been LET GO,
     * and a STAYER who MAY STAY. WORTH for SIDE 0 is the AGE, for SIDE 1 what lacks of 100.
     */
    private static NameRolls judged() {
        NameRolls x = new NameRolls();
        x.camp(0, 9);
        x.camp(1, 9);
        x.person(1, 0, 10, -1, 0);
        x.person(5, 0, 20, -1, 0);
        x.person(6, 0, 5, 0, 0);
        x.person(3, 0, 40, -1, 0);
        x.person(2, 0, 15, -1, 1);
        x.person(1, 0, 1, -1, 0);
        x.person(1, 1, 30, -1, 0);
        x.person(1, 1, 60, -1, 0);
        x.person(1, 1, 70, -1, 0);
        x.person(5, 1, 50, -1, 0);
        for (int i = 0; i < 10; i++) {
            x.offer(i);
        }
        x.become(5, 6);
        x.become(8, 6);
        x.fact(1, 1, 1);
        x.fact(9, 1, 1);
        text(x, 11, 0, "1");
        text(x, 22, 0, "a");
        text(x, 32, 0, "100-a");
        return x;
    }

    private static void judgeOrder() {
        NameRolls x = judged();
        int[][] due = {{32, 0, 1}, {0, 4, 1}, {34, 0, 1}, {2, 4, 1}, {32, 8, 1}, {2, 0, 2}, {2, 1, 2}, {0, 8, 2},
            {6, 8, 2}, {8, 1, 3}, {4, 0, 3}, {8, 0, 3}, {4, 3, 4}, {0, 1, 4}, {1, 3, 4}, {4, 2, 5}, {12, 2, 5},
            {1, 2, 5}, {8, 2, 6}, {13, 2, 6}, {24, 2, 0}, {0, 0, 0}, {16, 1, 0}, {5, 1, 0}};
        for (int[] d : due) {
            due(34, "judge(" + d[0] + ", " + d[1] + ")", x.judge(d[0], d[1]), d[2]);
        }
        int[] states = {6, 7, 8};
        for (int state : states) {
            NameRolls y = sevens();
            due(34, "LET", y.judge(1, 1), 0);
            y.become(0, state);
            due(34, "not IN CAMP any more", y.judge(1, 1), 1);
            due(34, "who does not go", y.judge(2, 1), 0);
            y.become(8, state);
            due(34, "of SIDE 1", y.judge(2, 1), 1);
        }
        NameRolls y = sevens();
        y.move(0, 16);
        due(34, "ON THE ROAD", y.judge(1, 1), 1);
        y.days(1);
        due(34, "AT THE HARBOUR", y.judge(1, 1), 1);
        y.become(0, 4);
        due(34, "ABOARD", y.judge(1, 1), 1);
    }

    private static void judgeChildren() {
        NameRolls x = new NameRolls();
        x.camp(0, 9);
        x.camp(1, 9);
        x.person(1, 0, 1, -1, 0);
        x.person(6, 0, 1, 0, 0);
        x.person(6, 0, 1, 1, 0);
        x.person(6, 0, 1, -1, 0);
        x.person(1, 1, 1, -1, 0);
        x.person(6, 1, 1, 4, 0);
        x.person(1, 1, 1, -1, 0);
        x.person(1, 1, 1, -1, 0);
        x.offer(1);
        x.offer(4);
        x.offer(6);
        x.offer(7);
        due(34, "its PERSON is not on the list", x.judge(1, 1), 0);
        x.offer(0);
        due(34, "now it is", x.judge(1, 1), 5);
        due(34, "without the CHILD", x.judge(2, 1), 5);
        due(34, "both", x.judge(3, 3), 0);
        due(34, "none", x.judge(0, 0), 0);
        x.offer(2);
        due(34, "a CHILD with a CHILD", x.judge(3, 3), 5);
        due(34, "it alone", x.judge(4, 1), 5);
        due(34, "all three", x.judge(7, 7), 0);
        x.offer(3);
        due(34, "a CHILD with nobody", x.judge(8, 1), 0);
        x.offer(5);
        due(34, "of SIDE 1", x.judge(8, 1), 5);
        due(34, "of SIDE 1", x.judge(8, 8), 5);
        due(34, "others of it", x.judge(8, 4), 0);
        x.become(4, 7);
        due(34, "its PERSON is not IN CAMP, but on the list", x.judge(8, 8), 5);
    }

    /** So many SICK ones and doctors in camp 0, of whom the doctors and three SICK ones are on the list; 7 for them. */
    private static NameRolls ward(int sick, int doctors) {
        NameRolls x = new NameRolls();
        x.camp(0, 99);
        x.camp(1, 9);
        for (int i = 0; i < 7; i++) {
            x.person(1, 1, 1, -1, 0);
            x.offer(i);
        }
        for (int i = 0; i < doctors; i++) {
            x.person(3, 0, 1, -1, 0);
            x.offer(7 + i);
        }
        for (int i = 0; i < sick; i++) {
            x.person(2, 0, 1, -1, 1 + i % 9);
            if (i < 3) {
                x.offer(7 + doctors + i);
            }
        }
        return x;
    }

    private static int ones(int n) {
        return (1 << n) - 1;
    }

    private static void judgeDoctors() {
        // SICK ones, doctors, RATIO, doctors that go, SICK ones that go, and the verdict.
        int[][] due = {{1, 1, 99, 1, 0, 6}, {0, 1, 1, 1, 0, 0}, {1, 1, 1, 1, 1, 0}, {1, 2, 1, 1, 0, 0},
            {10, 2, 10, 1, 0, 0}, {11, 2, 10, 1, 0, 6}, {11, 2, 10, 1, 1, 0}, {12, 2, 10, 1, 1, 6},
            {20, 4, 10, 2, 0, 0}, {20, 4, 10, 3, 0, 6}, {21, 4, 10, 1, 0, 0}, {21, 4, 10, 2, 0, 6},
            {4, 3, 1, 1, 0, 6}, {4, 3, 1, 0, 0, 0}, {4, 3, 1, 0, 1, 0}, {4, 3, 1, 1, 2, 0}, {4, 3, 1, 1, 1, 6},
            {60, 1, 1, 0, 0, 0}, {60, 1, 1, 1, 3, 6}, {60, 0, 1, 0, 3, 0}, {80, 2, 99, 1, 0, 0},
            {80, 2, 99, 2, 3, 6}, {80, 4, 40, 2, 0, 0}, {81, 4, 40, 2, 0, 6}};
        for (int[] d : due) {
            NameRolls x = ward(d[0], d[1]);
            x.ratio(d[2]);
            int set = ones(d[3]) | ones(d[4]) << d[1];
            due(34, d[0] + " SICK, " + d[1] + " doctors, RATIO " + d[2] + ", of whom go " + d[4] + ", " + d[3],
                x.judge(set, ones(d[3] + d[4])), d[5]);
        }
        NameRolls x = ward(11, 2);
        due(34, "11 want two", x.judge(1, 1), 6);
        x.heal(9, 0);
        due(34, "10 want one", x.judge(1, 1), 0);
        x.person(2, 0, 1, -1, 5);
        due(34, "one has come", x.judge(1, 1), 6);
        x.person(3, 0, 1, -1, 0);
        due(34, "a doctor, too", x.judge(1, 1), 0);
        due(34, "but not for both", x.judge(3, 3), 6);
        x.become(10, 8);
        due(34, "one of the SICK has died", x.judge(3, 3), 0);
        NameRolls y = new NameRolls();
        y.camp(0, 9);
        y.camp(0, 9);
        y.camp(1, 9);
        y.person(3, 0, 1, -1, 0);
        y.person(3, 1, 1, -1, 0);
        y.person(2, 1, 1, -1, 1);
        y.person(3, 2, 1, -1, 0);
        y.person(2, 2, 1, -1, 1);
        y.person(1, 2, 1, -1, 0);
        int[] all = {0, 1, 3, 5};
        for (int p : all) {
            y.offer(p);
        }
        due(34, "a CAMP without SICK ones", y.judge(1, 2), 0);
        due(34, "each CAMP by itself", y.judge(2, 2), 6);
        due(34, "of SIDE 1, too", y.judge(1, 1), 6);
    }

    private static void best() {
        refused(35, STATE, "best() of none", NameRolls::new, x -> x.best());
        for (int n = 0; n < 2; n++) {
            int side = n;
            refused(35, STATE, "best() without SIDE " + (1 - n), () -> {
                NameRolls x = sevens();
                x.best();
                x.offer(8 * side);
                x.offer(8 * side + 1);
                return x;
            }, x -> x.best());
        }
        NameRolls x = sevens();
        due(35, "all seven of both", x.best(), 14);
        due(36, "all", x.bestOf(0), 127);
        due(36, "all", x.bestOf(1), 127);
        due(34, "the lists are empty", x.judge(1, 0), NONE);
        due(34, "both", x.judge(0, 1), NONE);
        due(32, "so one may come again", x.offer(6), 1);
        NameRolls y = sevens();
        y.best();
        for (int i = 0; i < 3; i++) {
            y.offer(i);
        }
        y.offer(8);
        due(35, "one for one", y.best(), 2);
        due(36, "the least set", y.bestOf(0), 1);
        due(36, "the only one", y.bestOf(1), 1);
        NameRolls z = sevens();
        z.best();
        text(z, 22, 0, "0");
        text(z, 32, 0, "0");
        z.offer(0);
        for (int i = 8; i < 15; i++) {
            z.offer(i);
        }
        due(35, "the most, whatever the difference", z.best(), 8);
        due(36, "one", z.bestOf(0), 1);
        due(36, "for seven", z.bestOf(1), 127);
        bestByDifference();
    }

    private static void bestByDifference() {
        NameRolls x = sevens();
        x.best();
        // For SIDE 0 persons 0 and 1 count 2, others 4; for SIDE 1 all count nothing.
        text(x, 22, 0, "(a<12)*2+(a>11)*4");
        text(x, 32, 0, "0");
        for (int i = 0; i < 4; i++) {
            x.offer(i);
        }
        x.offer(8);
        due(35, "two for one", x.best(), 3);
        due(36, "the first two", x.bestOf(0), 3);
        NameRolls z = sevens();
        z.best();
        text(z, 22, 0, "(a=10)*3+(a>10)");
        text(z, 32, 0, "(a=10)*3+(a>10)");
        for (int i = 0; i < 3; i++) {
            z.offer(i);
            z.offer(8 + i);
        }
        due(34, "one for three is LET", z.judge(1, 7), 0);
        due(34, "two for two, too", z.judge(6, 3), 0);
        due(35, "four go", z.best(), 4);
        due(36, "less difference counts ahead of a lesser set", z.bestOf(0), 6);
        due(36, "then the least set of SIDE 1", z.bestOf(1), 3);
        NameRolls y = judged();
        due(35, "all that may go", y.best(), 6);
        due(36, "of SIDE 0", y.bestOf(0), 29);
        due(36, "of SIDE 1", y.bestOf(1), 3);
    }

    private static void bestOf() {
        int[] notSides = {-1, 2, LEAST, MOST};
        for (int side : notSides) {
            refused(36, NONE, "bestOf(" + side + ")", EdgeTests::rich, x -> x.bestOf(side));
        }
        refused(36, NONE, "bestOf(0) before any", EdgeTests::sevens, x -> x.bestOf(0));
        refused(36, NONE, "bestOf(1) before any", EdgeTests::sevens, x -> x.bestOf(1));
        NameRolls x = new NameRolls();
        x.best();
        due(36, "a refused one does not count", x.bestOf(0), NONE);
        NameRolls y = sevens();
        for (int i = 0; i < 7; i++) {
            y.become(i, 8);
        }
        due(35, "nobody", y.best(), 0);
        due(36, "no bits", y.bestOf(0), 0);
        due(36, "no bits", y.bestOf(1), 0);
        due(35, "refused", y.best(), STATE);
        due(36, "it stays", y.bestOf(0), 0);
    }

    // ---- promises 37 to 42

    private static void shipAndBridge() {
        loads();
        sails();
        sailsTogether();
        voyages();
        walkers();
        bridges();
        bridgesByMinutes();
        begins();
    }

    /** Eight camps, the i-th of them i + 1 DAYS from the harbour, but for camp 7, which has no road. */
    private static NameRolls harbour() {
        NameRolls x = new NameRolls();
        for (int i = 0; i < 8; i++) {
            x.camp(i % 2, 9);
            if (i < 7) {
                x.road(i, 16, i + 1);
            }
        }
        return x;
    }

    private static NameRolls loaded() {
        NameRolls x = harbour();
        for (int i = 0; i < 6; i++) {
            due(37, "load", x.load(i, i % 2 * 99, 99 - i % 2 * 98), i + 1);
        }
        return x;
    }

    private static void loads() {
        int[][] wrongOnes = {{-1, 1, 1}, {8, 1, 1}, {16, 1, 1}, {17, 1, 1}, {LEAST, 1, 1}, {MOST, 1, 1}, {0, 0, 0},
            {0, -1, 1}, {0, 1, -1}, {0, -1, 2}, {0, 2, -1}, {0, -1, 99}, {0, 99, -1}, {0, 100, 1}, {0, 1, 100},
            {0, LEAST, 1}, {0, 1, LEAST}, {0, MOST, 1}, {0, 1, MOST}, {0, MOST, MOST}, {0, -5, 5}, {7, 0, 0}};
        for (int[] w : wrongOnes) {
            refused(37, NONE, "load(" + w[0] + ", " + w[1] + ", " + w[2] + ")", EdgeTests::harbour,
                x -> x.load(w[0], w[1], w[2]));
            refused(37, NONE, "load(" + w[0] + ", " + w[1] + ", " + w[2] + ") of 7", EdgeTests::loaded,
                x -> x.load(w[0], w[1], w[2]));
        }
        refused(37, NOT, "load without a way", EdgeTests::harbour, x -> x.load(7, 1, 1));
        refused(37, NOT, "load without a way, of 7", EdgeTests::loaded, x -> x.load(7, 1, 1));
        refused(37, FULL, "load of 7", EdgeTests::loaded, x -> x.load(6, 1, 1));
        refused(37, NONE, "load twice, of 7", EdgeTests::loaded, x -> x.load(5, 1, 1));
        refused(37, NONE, "load twice", EdgeTests::rich, x -> x.load(2, 1, 1));
        NameRolls x = harbour();
        due(37, "one on a stretcher", x.load(0, 1, 0), 1);
        due(37, "one on foot", x.load(1, 0, 1), 2);
        due(37, "99 of each", x.load(2, 99, 99), 3);
        due(38, "each as soon as it is ready", x.sail(99, 99, 1), 1 + 2 + 3 * 198);
        due(37, "then it may come again", x.load(0, 1, 0), 1);
    }

    private static void sails() {
        int[][] wrongOnes = {{-1, 9, 1}, {1000, 9, 1}, {LEAST, 9, 1}, {MOST, 9, 1}, {9, -1, 1}, {9, 1000, 1},
            {9, LEAST, 1}, {9, MOST, 1}, {9, 99, 0}, {9, 99, -1}, {9, 99, 31}, {9, 99, LEAST}, {9, 99, MOST}};
        for (int[] w : wrongOnes) {
            refused(38, NONE, "sail(" + w[0] + ", " + w[1] + ", " + w[2] + ")", EdgeTests::rich,
                x -> x.sail(w[0], w[1], w[2]));
            refused(38, NONE, "sail(" + w[0] + ", " + w[1] + ", " + w[2] + ") of none", NameRolls::new,
                x -> x.sail(w[0], w[1], w[2]));
        }
        int[][] taken = {{0, 0, 1}, {999, 999, 30}, {0, 999, 30}, {999, 0, 1}};
        for (int[] t : taken) {
            refused(38, STATE, "sail(" + t[0] + ", " + t[1] + ", " + t[2] + ") of none", EdgeTests::harbour,
                x -> x.sail(t[0], t[1], t[2]));
        }
        // In rich() camp 0 has 3 and 10, camp 2 has 9 and none.
        int[][] small = {{8, 99, 1}, {9, 9, 1}, {0, 999, 1}, {999, 0, 1}, {2, 10, 30}};
        for (int[] s : small) {
            refused(38, NOT, "sail(" + s[0] + ", " + s[1] + ", " + s[2] + ")", EdgeTests::rich,
                x -> x.sail(s[0], s[1], s[2]));
        }
        // DAY 11; camp 2 is ready on 12, camp 0 on 14.
        due(38, "both just so", rich().sail(12, 10, 30), 22 * 14);
        due(38, "one STRETCHER less", rich().sail(11, 10, 30), 13 * 14 + 9 * 44);
        due(38, "TURN 1", rich().sail(11, 10, 1), 9 * 12 + 13 * 14);
        due(38, "TURN 2", rich().sail(11, 10, 2), 9 * 12 + 13 * 14);
        due(38, "TURN 3", rich().sail(11, 10, 3), 9 * 12 + 13 * 15);
        due(38, "not together, though it could", rich().sail(12, 10, 3), 9 * 12 + 13 * 15);
        due(38, "the greatest ship", rich().sail(999, 999, 30), 22 * 14);
        NameRolls x = rich();
        x.sail(999, 999, 30);
        due(39, "both in one", x.voyage(0, 0), 3);
        due(39, "its DAY", x.voyage(0, 1), 14);
        refused(38, STATE, "sail again", () -> {
            NameRolls y = rich();
            y.sail(999, 999, 30);
            return y;
        }, y -> y.sail(999, 999, 30));
    }

    private static void sailsTogether() {
        NameRolls x = harbour();
        for (int i = 0; i < 6; i++) {
            x.load(i, 0, 10);
        }
        due(38, "each alone, TURN 1", x.sail(0, 10, 1), 10 * (1 + 2 + 3 + 4 + 5 + 6));
        for (int i = 0; i < 6; i++) {
            due(39, "voyage " + i, x.voyage(i, 0), 1 << i);
            due(39, "its DAY", x.voyage(i, 1), i + 1);
            x.load(i, 0, 10);
        }
        due(39, "no seventh", x.voyage(6, 0), NONE);
        due(38, "each alone, TURN 30", x.sail(0, 19, 30), 10 * (6 + 30 * 15));
        for (int i = 0; i < 6; i++) {
            due(39, "the DAY of voyage " + i, x.voyage(i, 1), 1 + 30 * i);
            x.load(5 - i, 0, 10);
        }
        due(38, "three and three", x.sail(0, 30, 30), 30 * 3 + 30 * 33);
        due(39, "the last three told", x.voyage(0, 0), 56);
        due(39, "then the others", x.voyage(1, 0), 7);
        due(39, "their DAY", x.voyage(1, 1), 33);
        for (int i = 0; i < 6; i++) {
            x.load(i, 0, 10);
        }
        due(38, "all six in one", x.sail(0, 60, 30), 60 * 6);
        due(39, "its CAMPS", x.voyage(0, 0), 63);
        due(39, "its DAY", x.voyage(0, 1), 6);
        due(39, "no second", x.voyage(1, 0), NONE);
        NameRolls y = at(600);
        y.camp(0, 1);
        y.road(0, 16, 9);
        y.load(0, 1, 0);
        due(38, "behind DAY 600", y.sail(1, 0, 1), 609);
        due(39, "so it is told", y.voyage(0, 1), 609);
    }

    private static void voyages() {
        int[][] wrongOnes = {{-1, 0}, {1, 0}, {2, 0}, {LEAST, 0}, {MOST, 0}, {0, -1}, {0, 2}, {0, LEAST}, {0, MOST}};
        for (int[] w : wrongOnes) {
            refused(39, NONE, "voyage(" + w[0] + ", " + w[1] + ")", () -> {
                NameRolls x = rich();
                x.sail(999, 999, 30);
                return x;
            }, x -> x.voyage(w[0], w[1]));
        }
        due(39, "before any", loaded().voyage(0, 0), NONE);
        NameRolls x = loaded();
        x.sail(98, 99, 1);
        due(39, "one that found none", x.voyage(0, 0), NONE);
        due(38, "the camps stay", x.load(0, 1, 1), NONE);
        due(38, "alone each, three and three", x.sail(99, 99, 1), 99 * (1 + 3 + 5) + 100 * (2 + 4 + 6));
        int stood = x.voyage(0, 0);
        x.load(6, 99, 99);
        due(38, "too great", x.sail(98, 99, 1), NOT);
        due(39, "the latest that found one", x.voyage(0, 0), stood);
        due(38, "one camp", x.sail(99, 99, 1), 198 * 7);
        due(39, "the newest", x.voyage(0, 1), 7);
        due(39, "no more of the one ahead", x.voyage(1, 0), NONE);
    }

    private static NameRolls tens() {
        NameRolls x = new NameRolls();
        for (int i = 0; i < 10; i++) {
            due(40, "walker", x.walker(0, 9), i + 1);
            due(40, "walker", x.walker(1, 1 + i % 9), i + 1);
        }
        return x;
    }

    private static void walkers() {
        int[][] wrongOnes = {{-1, 1}, {2, 1}, {LEAST, 1}, {MOST, 1}, {0, 0}, {0, 10}, {0, -1}, {1, LEAST}, {1, MOST}};
        for (int[] w : wrongOnes) {
            refused(40, NONE, "walker(" + w[0] + ", " + w[1] + ")", EdgeTests::rich, x -> x.walker(w[0], w[1]));
            refused(40, NONE, "walker(" + w[0] + ", " + w[1] + ") of 11", EdgeTests::tens,
                x -> x.walker(w[0], w[1]));
        }
        refused(40, FULL, "an 11th", EdgeTests::tens, x -> x.walker(0, 1));
        refused(40, FULL, "an 11th of row 1", EdgeTests::tens, x -> x.walker(1, 9));
        NameRolls x = new NameRolls();
        due(40, "1 MINUTE", x.walker(0, 1), 1);
        due(40, "9 MINUTES", x.walker(1, 9), 1);
        due(41, "the longer one", x.bridge(1), 9);
        due(40, "the rows are empty", x.walker(0, 1), 1);
        due(40, "both", x.walker(1, 1), 1);
    }

    private static void bridges() {
        int[] wrongOnes = {0, -1, 4, LEAST, MOST};
        for (int ahead : wrongOnes) {
            refused(41, NONE, "bridge(" + ahead + ")", EdgeTests::rich, x -> x.bridge(ahead));
            refused(41, NONE, "bridge(" + ahead + ") of none", NameRolls::new, x -> x.bridge(ahead));
        }
        for (int a = 1; a <= 3; a++) {
            int ahead = a;
            refused(41, STATE, "bridge(" + ahead + ") of none", NameRolls::new, x -> x.bridge(ahead));
            for (int r = 0; r < 2; r++) {
                int row = r;
                refused(41, STATE, "bridge(" + ahead + ") of row " + row + " alone", () -> {
                    NameRolls x = new NameRolls();
                    x.walker(row, 1);
                    return x;
                }, x -> x.bridge(ahead));
                for (int over = 1; over <= 4; over++) {
                    NameRolls x = new NameRolls();
                    x.walker(1 - row, 1);
                    for (int i = 0; i < 1 + over; i++) {
                        x.walker(row, 1);
                    }
                    due(41, over + " more in row " + row + ", AHEAD " + a, x.bridge(a), over > a ? NOT : 1 + over);
                    due(41, "the rows then", x.walker(row, 1), over > a ? over + 2 : 1);
                }
            }
            refused(41, NOT, "bridge(" + ahead + ") of five for one", () -> {
                NameRolls x = new NameRolls();
                x.walker(0, 2);
                x.walker(1, 1);
                x.bridge(1);
                x.walker(0, 1);
                for (int i = 0; i < 5; i++) {
                    x.walker(1, 1 + i);
                }
                return x;
            }, x -> x.bridge(ahead));
        }
        due(41, "the longest rows, side by side", tens().bridge(3), 90);
    }

    private static void bridgesByMinutes() {
        for (int ahead = 1; ahead <= 3; ahead++) {
            NameRolls x = new NameRolls();
            x.walker(0, 9);
            for (int i = 0; i < 4; i++) {
                x.walker(0, 1);
            }
            for (int i = 0; i < 5; i++) {
                x.walker(1, 1);
            }
            due(41, "AHEAD " + ahead, x.bridge(ahead), 9 + 4);
            NameRolls y = new NameRolls();
            y.walker(0, 9);
            for (int i = 0; i < 3; i++) {
                y.walker(1, 1);
            }
            due(41, "three for one, AHEAD " + ahead, y.bridge(ahead), ahead == 1 ? NOT : 9);
            NameRolls z = new NameRolls();
            z.walker(0, 9);
            z.walker(0, 9);
            for (int i = 0; i < 5; i++) {
                z.walker(1, 1);
            }
            due(41, "five for two, AHEAD " + ahead, z.bridge(ahead), ahead < 3 ? NOT : 18);
        }
        NameRolls x = new NameRolls();
        x.walker(0, 3);
        x.walker(0, 3);
        x.walker(0, 3);
        x.walker(1, 1);
        x.walker(1, 1);
        x.walker(1, 1);
        x.walker(1, 1);
        due(41, "at the end of each MINUTE", x.bridge(1), 9);
        int[] due = {3, 0, 2, 1, 0, 2, 1, 0, 2};
        for (int m = 0; m < 9; m++) {
            due(42, "began(" + m + ")", x.began(m), due[m]);
        }
    }

    private static void begins() {
        int[] wrongOnes = {-1, 3, 4, LEAST, MOST};
        for (int m : wrongOnes) {
            refused(42, NONE, "began(" + m + ")", EdgeTests::rich, x -> x.began(m));
        }
        due(42, "before any", tens().began(0), NONE);
        NameRolls x = tens();
        x.bridge(1);
        due(42, "MINUTE 0", x.began(0), 3);
        due(42, "the last MINUTE", x.began(89), 0);
        due(42, "behind its end", x.began(90), NONE);
        x.walker(0, 1);
        x.walker(1, 1);
        x.walker(1, 1);
        x.walker(1, 1);
        due(41, "it can't be", x.bridge(1), NOT);
        due(42, "so the one ahead stays", x.began(89), 0);
        x.bridge(2);
        due(42, "both", x.began(0), 3);
        due(42, "row 1's", x.began(1), 2);
        due(42, "row 1's", x.began(2), 2);
        due(42, "behind its end", x.began(3), NONE);
        due(42, "behind its end", x.began(89), NONE);
    }

    // ---- promises 43 to 49

    private static void soughtAndRounds() {
        soughts();
        finds();
        findsByDays();
        founds();
        rounds();
        aims();
        orders();
        ordersByAims();
    }

    private static NameRolls sought5() {
        NameRolls x = rich();
        for (int i = 2; i <= 5; i++) {
            due(43, "sought", x.sought(0, 0, 600), i);
        }
        return x;
    }

    private static void soughts() {
        int[][] wrongOnes = {{-1, 0, 1}, {4, 0, 1}, {16, 0, 1}, {17, 0, 1}, {LEAST, 0, 1}, {MOST, 0, 1}, {0, -1, 1},
            {0, 601, 601}, {0, 0, 601}, {0, 1, 0}, {0, 600, 599}, {0, LEAST, 1}, {0, 0, MOST}, {0, 0, -1},
            {0, MOST, LEAST}};
        for (int[] w : wrongOnes) {
            refused(43, NONE, "sought(" + w[0] + ", " + w[1] + ", " + w[2] + ")", EdgeTests::rich,
                x -> x.sought(w[0], w[1], w[2]));
            refused(43, NONE, "sought(" + w[0] + ", " + w[1] + ", " + w[2] + ") of 6", EdgeTests::sought5,
                x -> x.sought(w[0], w[1], w[2]));
        }
        refused(43, FULL, "a sixth", EdgeTests::sought5, x -> x.sought(0, 0, 1));
        NameRolls x = land();
        due(43, "DAY 0", x.sought(0, 0, 0), 1);
        due(43, "DAY 600", x.sought(1, 600, 600), 2);
        due(43, "all DAYS", x.sought(2, 0, 600), 3);
        due(45, "found(-1)", x.found(-1), 1);
        due(43, "they are gone", x.sought(0, 0, 0), 1);
    }

    private static void finds() {
        for (int side : NOT_SIDES) {
            refused(44, NONE, "find(" + side + ")", EdgeTests::rich, x -> x.find(side));
            refused(44, NONE, "find(" + side + ") of none", NameRolls::new, x -> x.find(side));
        }
        refused(44, STATE, "find(0) of none", () -> {
            NameRolls x = rich();
            x.found(-1);
            return x;
        }, x -> x.find(0));
        NameRolls x = states();
        x.sought(0, 0, 600);
        due(44, "states 0 to 4", x.find(0), 5);
        for (int i = 0; i < 5; i++) {
            due(45, "found(" + i + ")", x.found(i), i);
        }
        due(45, "no sixth", x.found(5), NONE);
        due(44, "the other SIDE holds none", x.find(1), 0);
        due(45, "so none is found", x.found(0), NONE);
        due(44, "the STAYS stay", x.find(0), 5);
        due(44, "nobody at all", new NameRolls().find(0), STATE);
        NameRolls y = hundredFifty();
        y.sought(0, 5, 5);
        due(44, "all of one SIDE", y.find(0), 99);
        due(45, "the last", y.found(98), 98);
        due(44, "behind TODAY anywhere", y.find(1), 51);
        due(45, "the last", y.found(50), 149);
        due(45, "no more", y.found(51), NONE);
    }

    /** One in camp 0 from DAY 5 to 8, ON THE ROAD, and in camp 1 from DAY 10 on; TODAY is DAY 12. */
    private static NameRolls led() {
        NameRolls x = land();
        x.days(5);
        x.person(1, 0, 1, -1, 0);
        x.days(3);
        x.move(0, 1);
        x.days(4);
        return x;
    }

    private static void findsByDays() {
        // The CAMP, from a DAY to a DAY, and whether it could be.
        int[][] due = {{1, 0, 4, 1}, {1, 0, 5, 0}, {1, 4, 4, 1}, {1, 5, 5, 0}, {1, 8, 8, 0}, {1, 9, 9, 1},
            {1, 9, 12, 1}, {1, 8, 12, 0}, {1, 9, 600, 1}, {0, 0, 9, 1}, {0, 5, 8, 1}, {0, 0, 10, 0}, {0, 10, 10, 0},
            {0, 12, 12, 0},
            {0, 13, 13, 1}, {0, 13, 600, 1}, {0, 12, 600, 0}, {2, 0, 4, 1}, {2, 9, 9, 1}, {2, 5, 5, 0}, {2, 10, 10, 0},
            {2, 13, 600, 1}, {0, 0, 600, 0}, {1, 0, 600, 0}, {2, 0, 600, 0}, {0, 0, 0, 1}, {1, 600, 600, 1},
            {1, 6, 7, 0}, {0, 9, 9, 1}};
        for (int[] d : due) {
            NameRolls x = led();
            x.sought(d[0], d[1], d[2]);
            due(44, "in CAMP " + d[0] + " from " + d[1] + " to " + d[2], x.find(0), d[3]);
            x.sought(0, 5, 8);
            due(44, "and in CAMP 0 from 5 to 8", x.find(0), d[3]);
            x.sought(1, 8, 8);
            due(44, "but not in CAMP 1 on 8", x.find(0), 0);
        }
        NameRolls x = led();
        x.sought(0, 5, 8);
        x.sought(1, 10, 12);
        due(44, "both of its STAYS", x.find(0), 1);
        x.days(1);
        x.sought(0, 13, 13);
        due(44, "TODAY is another now", x.find(0), 0);
        NameRolls y = led();
        y.become(0, 7);
        y.sought(0, 0, 0);
        due(44, "RUN OFF", y.find(0), 0);
        NameRolls z = led();
        z.move(0, 17);
        z.days(1);
        z.sought(0, 12, 12);
        due(44, "it left on the DAY", z.find(0), 0);
        z.found(-1);
        z.sought(0, 13, 13);
        due(44, "then it could be anywhere", z.find(0), 1);
    }

    private static void founds() {
        int[] wrongOnes = {-2, 3, 7, 150, LEAST, MOST};
        for (int i : wrongOnes) {
            refused(45, NONE, "found(" + i + ")", () -> {
                NameRolls x = rich();
                x.find(1);
                return x;
            }, x -> x.found(i));
        }
        NameRolls x = new NameRolls();
        due(45, "before any", x.found(0), NONE);
        due(45, "found(-1) of none", x.found(-1), 1);
        x.find(0);
        due(45, "a refused one does not count", x.found(0), NONE);
        NameRolls y = led();
        y.sought(0, 5, 5);
        y.find(0);
        y.find(2);
        due(45, "the latest that was not refused", y.found(0), 0);
        y.found(-1);
        y.find(0);
        due(45, "the latest that was not refused", y.found(0), 0);
        due(45, "no second", y.found(1), NONE);
    }

    private static NameRolls rounds6() {
        NameRolls x = new NameRolls();
        for (int i = 0; i < 6; i++) {
            due(46, "round", x.round(i % 2 * 99, 99 - i % 2 * 99), i + 1);
        }
        for (int i = 0; i < 4; i++) {
            due(47, "aim", x.aim(i == 0 ? 999 : i), i + 1);
        }
        return x;
    }

    private static void rounds() {
        int[][] wrongOnes = {{-1, 0}, {100, 0}, {0, -1}, {0, 100}, {LEAST, 0}, {MOST, 0}, {0, LEAST}, {0, MOST}};
        for (int[] w : wrongOnes) {
            refused(46, NONE, "round(" + w[0] + ", " + w[1] + ")", EdgeTests::rich, x -> x.round(w[0], w[1]));
            refused(46, NONE, "round(" + w[0] + ", " + w[1] + ") of 7", EdgeTests::rounds6,
                x -> x.round(w[0], w[1]));
        }
        refused(46, FULL, "a seventh", EdgeTests::rounds6, x -> x.round(0, 0));
        NameRolls x = new NameRolls();
        due(46, "none go, none come", x.round(0, 0), 1);
        due(46, "99 go, 99 come", x.round(99, 99), 2);
        x.aim(99);
        due(48, "it stops behind 99", x.order(), 99);
    }

    private static void aims() {
        int[] wrongOnes = {0, -1, 1000, LEAST, MOST};
        for (int v : wrongOnes) {
            refused(47, NONE, "aim(" + v + ")", EdgeTests::rich, x -> x.aim(v));
            refused(47, NONE, "aim(" + v + ") of 5", EdgeTests::rounds6, x -> x.aim(v));
        }
        refused(47, FULL, "a fifth", EdgeTests::rounds6, x -> x.aim(1));
        NameRolls x = new NameRolls();
        due(47, "1", x.aim(1), 1);
        due(47, "999", x.aim(999), 2);
    }

    private static void orders() {
        refused(48, STATE, "order() of none", NameRolls::new, x -> x.order());
        refused(48, STATE, "order() without an AIM", () -> {
            NameRolls x = rich();
            x.order();
            x.round(1, 2);
            return x;
        }, x -> x.order());
        refused(48, STATE, "order() without a list", () -> {
            NameRolls x = rich();
            x.order();
            x.aim(3);
            return x;
        }, x -> x.order());
        NameRolls x = rounds6();
        due(48, "those that cost nothing first", x.order(), 297);
        int[] want = {0, 2, 4, 1, 3, 5};
        for (int i = 0; i < 6; i++) {
            due(49, "ordered(" + i + ")", x.ordered(i), want[i]);
        }
        due(49, "no seventh", x.ordered(6), NONE);
        due(48, "all are none", x.order(), STATE);
        due(46, "a list", x.round(1, 1), 1);
        due(48, "no AIM", x.order(), STATE);
        due(47, "an AIM", x.aim(1), 1);
        due(49, "till then the latest stays", x.ordered(5), 5);
        due(48, "one list", x.order(), 1);
        due(49, "its place", x.ordered(0), 0);
        due(49, "no second", x.ordered(1), NONE);
        int[] wrongOnes = {-1, 2, 6, LEAST, MOST};
        for (int i : wrongOnes) {
            refused(49, NONE, "ordered(" + i + ")", EdgeTests::rich, y -> y.ordered(i));
        }
        due(49, "before any", rounds6().ordered(0), NONE);
    }

    /** The AIMS, one list of 5 for 3 and one of 5 for 4, and what has COME at least. */
    private static void ordersByAims() {
        int[][] due = {{4, 4}, {5, 4}, {6, 7}, {9, 7}, {10, 7}, {11, 7}, {999, 7}, {1, 4}};
        for (int[] d : due) {
            NameRolls x = new NameRolls();
            x.round(5, 3);
            x.round(5, 4);
            x.aim(d[0]);
            due(48, "AIM " + d[0], x.order(), d[1]);
            due(49, "the first", x.ordered(0), d[1] == 4 ? 1 : 0);
            due(49, "the other", x.ordered(1), d[1] == 4 ? 0 : 1);
        }
        NameRolls x = new NameRolls();
        x.round(0, 9);
        x.round(1, 0);
        x.aim(1);
        due(48, "a list for nothing does not stop it", x.order(), 9);
        due(49, "it is the first", x.ordered(0), 0);
        NameRolls y = new NameRolls();
        y.round(1, 0);
        y.round(0, 0);
        y.aim(1);
        due(48, "nothing comes", y.order(), 0);
        due(49, "the first by places", y.ordered(0), 0);
        NameRolls z = new NameRolls();
        z.round(10, 6);
        z.round(2, 5);
        z.round(3, 1);
        z.aim(3);
        z.aim(10);
        due(48, "the least over both AIMS", z.order(), 11);
        due(49, "so", z.ordered(0), 1);
        due(49, "so", z.ordered(1), 0);
        due(49, "so", z.ordered(2), 2);
    }

    // ---- promises 50 to 57

    private static void actsAndTables() {
        acts();
        traces();
        taken();
        tables();
        items();
        blanks();
        counts();
    }

    private static void acts() {
        int[][] wrongOnes = {{-1, 0}, {16, 0}, {LEAST, 0}, {MOST, 0}, {0, -1}, {0, 3}, {0, LEAST}, {0, MOST}};
        for (int[] w : wrongOnes) {
            refused(50, NO_VALUE, "act(" + w[0] + ", " + w[1] + ", 5)", EdgeTests::rich, x -> x.act(w[0], w[1], 5));
        }
        NameRolls x = rich();
        int[] xs = {0, 1, -1, MOST, MOST - 30, LEAST, LEAST + 30, 1 << 30, -(1 << 30), 123456789};
        for (int v : xs) {
            due(50, "HELD goes " + v, x.act(0, 0, v), v + 29);
            due(50, "HELD ranks " + v, x.act(0, 1, v), (v + 29) * 2);
            due(50, "HELD tells " + v, x.act(0, 2, v), (v + 29) * 2);
            due(50, "SICK ranks " + v, x.act(1, 1, v), (v + 39) * 2 + 3);
            due(50, "SICK tells " + v, x.act(1, 2, v), ((v + 39) * 2 + 3) ^ 1);
            due(50, "DOCTOR tells " + v, x.act(2, 2, v), -(((v + 49) * 2) ^ 2));
            due(50, "WANTED goes " + v, x.act(6, 0, v), v + 22);
            due(50, "WANTED tells " + v, x.act(6, 2, v), (((v + 22) * 2) ^ 6) + 23);
            due(50, "STAYER ranks " + v, x.act(4, 1, v), v + 32 - (v + 32) * 2);
            due(50, "CHILD goes " + v, x.act(3, 0, v), (v + 8) * 3);
            due(50, "HOSTAGE goes " + v, x.act(5, 0, v), v + 51);
            due(50, "HOSTAGE ranks " + v, x.act(5, 1, v), ((v + 51) * 2) ^ (v + 51));
            due(50, "HOSTAGE tells " + v, x.act(5, 2, v), ((((v + 51) * 2) ^ (v + 51)) ^ 5) + 52);
        }
        x.heal(1, 1);
        due(50, "the GRADE as it is", x.act(1, 1, 0), 39 * 2 + 1);
        x.become(0, 8);
        due(50, "in any state", x.act(0, 0, 0), 29);
    }

    private static void traces() {
        int[] wrongOnes = {-1, 16, 24, LEAST, MOST};
        for (int i : wrongOnes) {
            refused(51, NONE, "trace(" + i + ")", () -> {
                NameRolls x = rich();
                x.act(5, 2, 1);
                return x;
            }, x -> x.trace(i));
        }
        due(51, "before any", land().trace(0), NONE);
        NameRolls x = rich();
        x.act(5, 2, 1);
        int[] want = {51, 12, 80, 11, 81, 50, 20, 10, 81, 50, 20, 10, 81, 50, 20, 10};
        for (int i = 0; i < want.length; i++) {
            due(51, "trace(" + i + ")", x.trace(i), want[i]);
        }
        x.act(16, 0, 0);
        x.act(0, 3, 0);
        due(51, "refused ones do not count", x.trace(15), 10);
        x.act(0, 0, 0);
        due(51, "the latest", x.trace(0), 20);
        due(51, "its second body", x.trace(1), 10);
        due(51, "no third", x.trace(2), NONE);
    }

    private static void taken() {
        int[][] wrongOnes = {{-1, 0}, {16, 0}, {LEAST, 0}, {MOST, 0}, {0, -1}, {0, 8}, {0, LEAST}, {0, MOST}};
        for (int[] w : wrongOnes) {
            refused(52, NONE, "taken(" + w[0] + ", " + w[1] + ")", EdgeTests::rich, x -> x.taken(w[0], w[1]));
        }
        // In rich() the persons' kinds are 1, 2, 3, 6, 5, 7, 4.
        int[] kinds = {1, 2, 3, 6, 5, 7, 4};
        for (int p = 0; p < kinds.length; p++) {
            for (int k = 0; k <= 7; k++) {
                int person = p;
                int kind = k;
                boolean is = k == 0 || k == 1 || k == kinds[p] || k == 4 && kinds[p] == 7;
                if (is) {
                    due(52, "taken(" + p + ", " + k + ")", rich().taken(p, k), kinds[p]);
                } else {
                    refused(52, CAST, "taken(" + p + ", " + k + ")", EdgeTests::rich, x -> x.taken(person, kind));
                }
            }
        }
    }

    private static void tables() {
        int[][] wrongOnes = {{-1, 0, 1}, {4, 0, 1}, {LEAST, 0, 1}, {MOST, 0, 1}, {0, -2, 1}, {0, 2, 1}, {0, LEAST, 1},
            {0, MOST, 1}, {0, 0, -1}, {0, 0, 61}, {0, 1, -1}, {0, 1, 61}, {0, 1, LEAST}, {0, 0, MOST}, {4, -1, 1}};
        for (int[] w : wrongOnes) {
            refused(53, NONE, "table(" + w[0] + ", " + w[1] + ", " + w[2] + ")", EdgeTests::rich,
                x -> x.table(w[0], w[1], w[2]));
        }
        NameRolls x = new NameRolls();
        for (int t = 0; t < 4; t++) {
            for (int sort = 0; sort < 2; sort++) {
                due(53, "no items", x.table(t, sort, 0), 1);
                due(54, "no place", x.item(t, 0, 1), NONE);
                due(55, "no place", x.read(t, 0), NO_VALUE);
                due(53, "60 items", x.table(t, sort, 60), 1);
                due(54, "the last", x.item(t, 59, t + 5), 1);
                due(54, "the first", x.item(t, 0, t + 6), 1);
                due(55, "the last", x.read(t, 59), t + 5);
                due(53, "59 items", x.table(t, sort, 59), 1);
                due(55, "all 0", x.read(t, 0), 0);
                due(55, "no last", x.read(t, 59), NO_VALUE);
                due(53, "60 items again", x.table(t, sort, 60), 1);
                due(55, "all 0", x.read(t, 59), 0);
            }
        }
        int[] any = {LEAST, -1, 0, 61, MOST};
        for (int n : any) {
            x.table(2, 1, 3);
            due(53, "nothing, n " + n, x.table(2, -1, n), 1);
            due(54, "holds nothing", x.item(2, 0, 1), CAST);
            due(55, "holds nothing", x.read(2, 0), NO_VALUE);
        }
        due(55, "each its own", x.read(3, 59), 0);
    }

    private static void items() {
        int[][] noTables = {{-1, 0}, {4, 0}, {LEAST, 0}, {MOST, 0}};
        for (int[] w : noTables) {
            refused(54, NONE, "item(" + w[0] + ", 0, 1)", EdgeTests::rich, x -> x.item(w[0], 0, 1));
            refused(55, NO_VALUE, "read(" + w[0] + ", 0)", EdgeTests::rich, x -> x.read(w[0], 0));
        }
        int[] noPlaces = {-1, 9, 60, LEAST, MOST};
        for (int i : noPlaces) {
            refused(54, NONE, "item(0, " + i + ", 1)", EdgeTests::rich, x -> x.item(0, i, 1));
            refused(54, CAST, "item(2, " + i + ", 1)", EdgeTests::rich, x -> x.item(2, i, 1));
            refused(55, NO_VALUE, "read(0, " + i + ")", EdgeTests::rich, x -> x.read(0, i));
            refused(55, NO_VALUE, "read(2, " + i + ")", EdgeTests::rich, x -> x.read(2, i));
        }
        refused(54, NONE, "item(1, 5, 1)", EdgeTests::rich, x -> x.item(1, 5, 1));
        NameRolls x = new NameRolls();
        x.table(0, 0, 1);
        x.table(1, 1, 1);
        int[] values = {0, 1, -1, 127, 128, 255, 256, -128, -129, 32767, 32768, 65535, 65536, -32768, -32769, LEAST,
            MOST, 0x12345678};
        for (int v : values) {
            due(54, "a byte", x.item(0, 0, v), 1);
            due(55, "the lowest 8 bits of " + v, x.read(0, 0), ((v & 255) ^ 128) - 128);
            due(54, "a short", x.item(1, 0, v), 1);
            due(55, "the lowest 16 bits of " + v, x.read(1, 0), ((v & 65535) ^ 32768) - 32768);
        }
    }

    private static void blanks() {
        NameRolls x = new NameRolls();
        int[] values = {LEAST, MOST, 0, -1, 99, 65536};
        int was = -1;
        for (int v : values) {
            due(56, "blank(" + v + ")", x.blank(v), was);
            was = v;
        }
    }

    private static void counts() {
        int[] wrongOnes = {-1, 19, LEAST, MOST};
        for (int what : wrongOnes) {
            refused(57, NONE, "count(" + what + ")", EdgeTests::rich, x -> x.count(what));
        }
        NameRolls x = rich();
        int[] want = {4, 16, 11, 3, 1, 2, 4, 3, 16, 4, 8, 1, 1, 1, 1, 1, 1, 1, 1};
        for (int what = 0; what < want.length; what++) {
            due(57, "count(" + what + ")", x.count(what), want[what]);
        }
        x.days(2);
        due(57, "STAYS that have begun", x.count(8), 17);
        due(57, "IN CAMP", x.count(10), 9);
        due(57, "ON THE ROAD", x.count(11), 0);
        due(57, "DAY", x.count(2), 13);
        x.text(0, 0);
        due(57, "bytes on THE TAPE", x.count(9), 0);
        due(57, "no TEXT by a FAULT", x.count(6), 4);
        NameRolls y = states();
        for (int state = 0; state <= 8; state++) {
            due(57, "state " + state, y.count(10 + state), 1);
        }
    }
}
