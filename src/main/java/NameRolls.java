/** Two sides who exchange each other's people by lists; DOC.md says what each call must do. */
public final class NameRolls {
    public static final int NONE = -1, FULL = -2, STATE = -3, NOT = -4, CAST = -5, NO_VALUE = -2000000000;

    private static final int LAST_DAY = 600;
    // More than any count of days, minutes or people times days that can come up.
    private static final int NEVER = 1000000000;

    private final Land land;
    private final Crowd crowd;
    private final Tidings tidings;
    private final Texts texts;
    private final Rolls rolls;
    private final Trade trade;
    private final Ship ship;
    private final Bridge crossing;
    private final Rounds rounds;

    public NameRolls() {
        land = new Land();
        crowd = new Crowd(land);
        tidings = new Tidings(crowd);
        texts = new Texts(crowd, tidings);
        rolls = new Rolls();
        trade = new Trade(crowd, texts);
        ship = new Ship(land, crowd);
        crossing = new Bridge();
        rounds = new Rounds();
    }

    // ---- camps, roads, days

    public int days(int n) {
        return crowd.pass(n);
    }

    public int camp(int side, int beds) {
        return land.addCamp(side, beds);
    }

    public int road(int a, int b, int days) {
        return land.addRoad(a, b, days);
    }

    public int far(int camp, int point) {
        return land.farFrom(camp, point);
    }

    public int rise(int grade, int v) {
        return crowd.setRise(grade, v);
    }

    // ---- persons

    public int person(int kind, int camp, int age, int with, int grade) {
        return crowd.enrol(kind, camp, age, with, grade);
    }

    public int move(int person, int point) {
        return crowd.send(person, point);
    }

    public int heal(int person, int grade) {
        return crowd.ease(person, grade);
    }

    public int become(int person, int state) {
        return crowd.turn(person, state);
    }

    public int of(int person, int what) {
        return crowd.tell(person, what);
    }

    public int stay(int person, int i, int what) {
        return crowd.tellStay(person, i, what);
    }

    // ---- facts, letters, promises

    public int fact(int person, int sort, int v) {
        return tidings.addFact(person, sort, v);
    }

    public int letter() {
        return tidings.addLetter();
    }

    public int known(int side, int person, int sort, int k) {
        return tidings.tellKnown(side, person, sort, k);
    }

    public int promise(int side, int n, int day) {
        return tidings.addPromise(side, n, day);
    }

    public int ofPromise(int promise, int what) {
        return tidings.tellPromise(promise, what);
    }

    public int broken(int side, int d) {
        return tidings.tellBroken(side, d);
    }

    // ---- texts

    public int feed(int n, int v) {
        return texts.addBytes(n, v);
    }

    public int text(int what, int from) {
        return texts.addText(what, from);
    }

    public int inForce(int what, int d, int k) {
        return texts.tellInForce(what, d, k);
    }

    public int says(int text, int person, int what, int d, int k) {
        return texts.tellSays(text, person, what, d, k);
    }

    public int owed(int person, int d, int k) {
        return texts.tellOwed(person, d, k);
    }

    public int mayStay(int person, int d, int k) {
        return texts.tellMayStay(person, d, k);
    }

    public int worth(int person, int side, int d, int k) {
        return texts.tellWorth(person, side, d, k);
    }

    // ---- rows of lists

    public int row(int side, int word, int age, int unit) {
        return rolls.addRow(side, word, age, unit);
    }

    public int canBe(int x, int y, int is) {
        return rolls.setCanBe(x, y, is);
    }

    public int same(int a, int b, int what) {
        return rolls.tellSame(a, b, what);
    }

    public int joined(int row) {
        return rolls.countJoined(row);
    }

    public int clash(int what) {
        return rolls.tellClash(what);
    }

    public int list(int side, int table, int i, int n) {
        return rolls.takeList(side, table, i, n);
    }

    // ---- exchanges

    public int offer(int person) {
        return trade.addOffer(person);
    }

    public int ratio(int v) {
        return trade.setRatio(v);
    }

    public int judge(int set0, int set1) {
        return trade.verdict(set0, set1);
    }

    public int best() {
        return trade.chooseBest();
    }

    public int bestOf(int side) {
        return trade.tellBest(side);
    }

    // ---- the ship, the bridge

    public int load(int camp, int stretchers, int feet) {
        return ship.addCamp(camp, stretchers, feet);
    }

    public int sail(int stretchers, int feet, int turn) {
        return ship.plan(stretchers, feet, turn);
    }

    public int voyage(int i, int what) {
        return ship.tellVoyage(i, what);
    }

    public int walker(int row, int minutes) {
        return crossing.addWalker(row, minutes);
    }

    public int bridge(int ahead) {
        return crossing.cross(ahead);
    }

    public int began(int m) {
        return crossing.tellBegan(m);
    }

    // ---- one sought, rounds

    public int sought(int camp, int a, int b) {
        return crowd.addSought(camp, a, b);
    }

    public int find(int side) {
        return crowd.seek(side);
    }

    public int found(int i) {
        return crowd.tellFound(i);
    }

    public int round(int go, int come) {
        return rounds.addList(go, come);
    }

    public int aim(int v) {
        return rounds.addAim(v);
    }

    public int order() {
        return rounds.arrange();
    }

    public int ordered(int i) {
        return rounds.tellOrder(i);
    }

    // ---- acts, tables

    public int act(int person, int act, int x) {
        return crowd.actOf(person, act, x);
    }

    public int trace(int i) {
        return crowd.tellTrace(i);
    }

    public int taken(int person, int k) {
        return crowd.take(person, k);
    }

    public int table(int table, int sort, int n) {
        return rolls.setTable(table, sort, n);
    }

    public int item(int table, int i, int v) {
        return rolls.setItem(table, i, v);
    }

    public int read(int table, int i) {
        return rolls.tellItem(table, i);
    }

    public int blank(int v) {
        return rolls.setBlank(v);
    }

    public int count(int what) {
        switch (what) {
            case 0: return land.camps;
            case 1: return crowd.size;
            case 2: return crowd.day;
            case 3: return tidings.facts;
            case 4: return tidings.letters;
            case 5: return tidings.promises;
            case 6: return texts.size;
            case 7: return rolls.size;
            case 8: return crowd.stays;
            case 9: return texts.tapeSize;
            default: return within(what, 10, 18) ? crowd.countState(what - 10) : NONE;
        }
    }

    private static boolean within(int v, int low, int high) {
        return v >= low && v <= high;
    }

    private static boolean isSide(int side) {
        return side == 0 || side == 1;
    }

    private static boolean isDay(int d) {
        return within(d, 0, LAST_DAY);
    }

    /** Camps, roads, and how far it is. */
    private static final class Land {
        static final int CAMPS = 16, HARBOUR = 16, BRIDGE = 17, POINTS = 18;

        final int[] sides = new int[CAMPS];
        final int[] beds = new int[CAMPS];
        int camps;
        // DAYS of the road between a and b at a * POINTS + b; 0 is no road.
        private final int[] roads = new int[POINTS * POINTS];
        private final int[] distance = new int[POINTS];
        private final boolean[] settled = new boolean[POINTS];

        boolean isCamp(int point) {
            return point >= 0 && point < camps && point < CAMPS;
        }

        boolean isPoint(int point) {
            return isCamp(point) || point == HARBOUR || point == BRIDGE;
        }

        int addCamp(int side, int bedsTold) {
            if (!isSide(side) || !within(bedsTold, 1, 99)) {
                return NONE;
            }
            if (camps >= CAMPS) {
                return FULL;
            }
            sides[camps] = side;
            beds[camps] = bedsTold;
            camps++;
            return camps - 1;
        }

        int addRoad(int a, int b, int days) {
            if (!isPoint(a) || !isPoint(b) || a == b || !within(days, 1, 9)) {
                return NONE;
            }
            if (isCamp(a) && isCamp(b) && sides[a] != sides[b]) {
                return NONE;
            }
            int was = roads[a * POINTS + b];
            int least = was == 0 ? days : Math.min(was, days);
            roads[a * POINTS + b] = least;
            roads[b * POINTS + a] = least;
            return least;
        }

        int farFrom(int camp, int point) {
            if (!isCamp(camp) || !isPoint(point)) {
                return NONE;
            }
            for (int p = 0; p < POINTS; p++) {
                distance[p] = NEVER;
                settled[p] = false;
            }
            distance[camp] = 0;
            int near = camp;
            for (int i = 0; i < POINTS && near >= 0 && near < POINTS; i++) {
                settled[near] = true;
                // A camp of the other side may end a way, but no way leads on through it.
                if (!isCamp(near) || sides[near] == sides[camp]) {
                    leadOn(near);
                }
                near = nearest();
            }
            return distance[point] >= NEVER ? NOT : distance[point];
        }

        private void leadOn(int from) {
            for (int p = 0; p < POINTS; p++) {
                int days = roads[from * POINTS + p];
                if (days > 0) {
                    distance[p] = Math.min(distance[p], distance[from] + days);
                }
            }
        }

        private int nearest() {
            int near = NONE;
            for (int p = 0; p < POINTS; p++) {
                if (!settled[p] && distance[p] < NEVER && (near < 0 || distance[p] < distance[near])) {
                    near = p;
                }
            }
            return near;
        }
    }

    /** One who is held, and what its kind does in acts. */
    private static final class Person {
        static final int SICK = 2, DOCTOR = 3, CHILD = 6, KINDS = 8;
        static final int IN_CAMP = 0, ON_ROAD = 1, AT_HARBOUR = 2, AT_BRIDGE = 3, ABOARD = 4,
            HANDED_OVER = 5, LET_GO = 6, RUN_OFF = 7, DEAD = 8;
        static final int GOES = 0, RANKS = 1, TELLS = 2;
        private static final int DEEPEST_ACT = 20;
        // The kind above each kind.
        private static final int[] ABOVE = {-1, 0, 1, 1, 1, 1, 1, 4};
        // The bodies of each kind for goes, ranks, tells; 0 where it has none of its own.
        private static final int[] BODIES = {
            10, 11, 12,
            20, 0, 0,
            0, 30, 0,
            0, 0, 40,
            50, 0, 51,
            0, 60, 0,
            70, 0, 0,
            81, 80, 0};

        final int number;
        final int kind;
        final int side;
        final int age;
        final int with;
        final int came;
        int grade;
        int gradeDay;
        int state;
        int stateDay;
        // The CAMP where it is, or the POINT to which it goes; NONE in all other states.
        int place;
        // The DAY when it is there, if it is on the road; else NONE.
        int there;

        Person(int number, int kind, int side, int age, int with, int came) {
            this.number = number;
            this.kind = kind;
            this.side = side;
            this.age = age;
            this.with = with;
            this.came = came;
            this.gradeDay = came;
            this.stateDay = came;
            this.there = NONE;
        }

        void enter(int newState, int newPlace, int day) {
            state = newState;
            place = newPlace;
            stateDay = day;
            there = NONE;
        }

        boolean isIn(int camp) {
            return state == IN_CAMP && place == camp;
        }

        boolean isUnder(int above) {
            int k = kind;
            for (int i = 0; i < KINDS && k >= 0 && k < KINDS; i++) {
                if (k == above) {
                    return true;
                }
                k = ABOVE[k];
            }
            return false;
        }

        int perform(int act, int x, Crowd crowd) {
            return within(act, GOES, TELLS) ? run(act, kind, x, 0, crowd) : NO_VALUE;
        }

        /** Runs the body of a kind for an act, or that of the next kind above that has one. */
        private int run(int act, int fromKind, int x, int depth, Crowd crowd) {
            int owner = fromKind;
            for (int i = 0; i < KINDS && owner > 0 && owner < KINDS && BODIES[owner * 3 + act] == 0; i++) {
                owner = ABOVE[owner];
            }
            if (depth > DEEPEST_ACT || owner < 0 || owner >= KINDS) {
                return 0;
            }
            int body = BODIES[owner * 3 + act];
            crowd.noteBody(body);
            return runBody(body, ABOVE[owner], x, depth + 1, crowd);
        }

        private int runBody(int body, int above, int x, int d, Crowd crowd) {
            switch (body) {
                case 10: return x + age;
                case 11: return run(GOES, kind, x, d, crowd) * 2;
                case 12: return run(RANKS, kind, x, d, crowd) ^ number;
                case 20: return run(GOES, above, x, d, crowd) - 1;
                case 30: return run(RANKS, above, x, d, crowd) + grade;
                case 40: return -run(TELLS, above, x, d, crowd);
                case 50: return run(GOES, above, x + 3, d, crowd);
                case 51: return run(TELLS, above, x, d, crowd) + run(GOES, kind, 1, d, crowd);
                case 60: return run(GOES, kind, x, d, crowd) - run(RANKS, above, x, d, crowd);
                case 70: return run(GOES, above, x, d, crowd) * 3;
                case 80: return run(RANKS, above, x, d, crowd) ^ run(GOES, kind, x, d, crowd);
                case 81: return run(GOES, above, x, d, crowd) + 5;
                default: return 0;
            }
        }
    }

    /** All persons, their stays, the days that go by, and one sought among them. */
    private static final class Crowd {
        private static final int MOST = 150, MOST_STAYS = 400, MOST_SOUGHT = 5, TRACE_KEPT = 24;
        private static final int WORST_GRADE = 10;

        final Person[] people = new Person[MOST];
        int size;
        int day;
        int stays;
        private final Land land;
        private final int[] rises = new int[WORST_GRADE];
        private final int[] stayOwner = new int[MOST_STAYS];
        private final int[] stayCamp = new int[MOST_STAYS];
        private final int[] stayFrom = new int[MOST_STAYS];
        // NONE while the stay goes on.
        private final int[] stayTo = new int[MOST_STAYS];
        private final int[] soughtCamp = new int[MOST_SOUGHT];
        private final int[] soughtFrom = new int[MOST_SOUGHT];
        private final int[] soughtTo = new int[MOST_SOUGHT];
        private int soughtSize;
        private final int[] foundOnes = new int[MOST];
        private int foundSize;
        private final int[] bodiesRun = new int[TRACE_KEPT];
        private int bodiesKept;

        Crowd(Land land) {
            this.land = land;
        }

        /** The person of a number; null if there is none. */
        Person get(int number) {
            return number >= 0 && number < size && number < MOST ? people[number] : null;
        }

        int pass(int n) {
            if (!within(n, 1, 60) || day + n > LAST_DAY) {
                return NONE;
            }
            for (int i = 0; i < n; i++) {
                day++;
                for (int p = 0; p < size; p++) {
                    arrive(people[p]);
                }
                for (int p = 0; p < size; p++) {
                    worsen(people[p]);
                }
            }
            return day;
        }

        private void arrive(Person p) {
            if (p == null || p.state != Person.ON_ROAD || p.there > day) {
                return;
            }
            if (p.place == Land.HARBOUR) {
                p.enter(Person.AT_HARBOUR, NONE, day);
            } else if (p.place == Land.BRIDGE) {
                p.enter(Person.AT_BRIDGE, NONE, day);
            } else {
                p.enter(Person.IN_CAMP, p.place, day);
                beginStay(p);
            }
        }

        private void worsen(Person p) {
            if (p == null || p.state > Person.ON_ROAD || !within(p.grade, 1, WORST_GRADE - 1)) {
                return;
            }
            int lasts = rises[p.grade];
            if (lasts == 0 || day - p.gradeDay < lasts) {
                return;
            }
            p.grade++;
            p.gradeDay = day;
            if (p.grade == WORST_GRADE) {
                leave(p, Person.DEAD);
            }
        }

        int setRise(int grade, int v) {
            if (!within(grade, 1, WORST_GRADE - 1) || !within(v, 0, 99)) {
                return NONE;
            }
            int was = rises[grade];
            rises[grade] = v;
            return was;
        }

        int enrol(int kind, int camp, int age, int with, int grade) {
            if (!within(kind, 1, Person.KINDS - 1) || !land.isCamp(camp) || !within(age, 0, 99)) {
                return NONE;
            }
            int side = land.sides[camp];
            if (!mayGoWith(kind, with, side) || !mayHaveGrade(kind, grade)) {
                return NONE;
            }
            if (!hasBed(camp)) {
                return STATE;
            }
            if (size >= MOST || !hasStay()) {
                return FULL;
            }
            Person p = new Person(size, kind, side, age, with, day);
            p.grade = grade;
            p.place = camp;
            people[size] = p;
            size++;
            beginStay(p);
            return p.number;
        }

        private boolean mayGoWith(int kind, int with, int side) {
            if (with == NONE) {
                return true;
            }
            Person other = get(with);
            return kind == Person.CHILD && other != null && other.side == side;
        }

        private boolean mayHaveGrade(int kind, int grade) {
            return kind == Person.SICK ? within(grade, 1, WORST_GRADE - 1) : grade == 0;
        }

        private boolean hasBed(int camp) {
            if (!land.isCamp(camp)) {
                return false;
            }
            int taken = 0;
            for (int i = 0; i < size; i++) {
                Person p = people[i];
                if (p != null && p.state <= Person.ON_ROAD && p.place == camp) {
                    taken++;
                }
            }
            return taken < land.beds[camp];
        }

        /** Those on the road to camps hold a stay each, so that there is room when they come. */
        private boolean hasStay() {
            int held = stays;
            for (int i = 0; i < size; i++) {
                Person p = people[i];
                if (p != null && p.state == Person.ON_ROAD && land.isCamp(p.place)) {
                    held++;
                }
            }
            return held < MOST_STAYS;
        }

        private void beginStay(Person p) {
            if (stays >= MOST_STAYS) {
                return;
            }
            stayOwner[stays] = p.number;
            stayCamp[stays] = p.place;
            stayFrom[stays] = day;
            stayTo[stays] = NONE;
            stays++;
        }

        /** The person is in a camp or on a road to none any more; a stay that goes on ends today. */
        private void leave(Person p, int state) {
            for (int i = 0; i < stays; i++) {
                if (stayOwner[i] == p.number && stayTo[i] == NONE) {
                    stayTo[i] = day;
                }
            }
            p.enter(state, NONE, day);
        }

        int send(int person, int point) {
            Person p = get(person);
            if (p == null || !land.isPoint(point)) {
                return NONE;
            }
            boolean toCamp = land.isCamp(point);
            if (p.state != Person.IN_CAMP || p.place == point) {
                return STATE;
            }
            if (toCamp && (land.sides[point] != p.side || !hasBed(point))) {
                return STATE;
            }
            int far = land.farFrom(p.place, point);
            if (far < 0) {
                return NOT;
            }
            if (toCamp && !hasStay()) {
                return FULL;
            }
            leave(p, Person.ON_ROAD);
            p.place = point;
            p.there = day + far;
            return p.there;
        }

        int ease(int person, int grade) {
            Person p = get(person);
            if (p == null || !within(grade, 0, WORST_GRADE - 1)) {
                return NONE;
            }
            if (p.state != Person.IN_CAMP || grade >= p.grade) {
                return STATE;
            }
            int was = p.grade;
            p.grade = grade;
            p.gradeDay = day;
            return was;
        }

        int turn(int person, int state) {
            Person p = get(person);
            if (p == null || !within(state, Person.ABOARD, Person.DEAD)) {
                return NONE;
            }
            if (!mayTurn(p.state, state)) {
                return STATE;
            }
            leave(p, state);
            return 1;
        }

        private boolean mayTurn(int from, int to) {
            switch (to) {
                case Person.ABOARD: return from == Person.AT_HARBOUR;
                case Person.HANDED_OVER: return from == Person.AT_BRIDGE || from == Person.ABOARD;
                case Person.LET_GO:
                case Person.RUN_OFF: return from == Person.IN_CAMP;
                default: return from <= Person.ABOARD;
            }
        }

        int tell(int person, int what) {
            Person p = get(person);
            if (p == null) {
                return NO_VALUE;
            }
            switch (what) {
                case 0: return p.kind;
                case 1: return p.side;
                case 2: return p.state;
                case 3: return p.place;
                case 4: return p.age;
                case 5: return p.with;
                case 6: return p.grade;
                case 7: return p.came;
                case 8: return p.stateDay;
                case 9: return countStays(person);
                case 10: return p.there;
                default: return NO_VALUE;
            }
        }

        private int countStays(int person) {
            int n = 0;
            for (int s = 0; s < stays; s++) {
                if (stayOwner[s] == person) {
                    n++;
                }
            }
            return n;
        }

        int tellStay(int person, int i, int what) {
            int left = i;
            for (int s = 0; s < stays && left >= 0; s++) {
                if (stayOwner[s] != person) {
                    continue;
                }
                if (left == 0) {
                    switch (what) {
                        case 0: return stayCamp[s];
                        case 1: return stayFrom[s];
                        case 2: return stayTo[s];
                        default: return NO_VALUE;
                    }
                }
                left--;
            }
            return NO_VALUE;
        }

        int countState(int state) {
            int n = 0;
            for (int i = 0; i < size; i++) {
                Person p = people[i];
                if (p != null && p.state == state) {
                    n++;
                }
            }
            return n;
        }

        int countIn(int camp, boolean doctorsAlone) {
            int n = 0;
            for (int i = 0; i < size; i++) {
                Person p = people[i];
                if (p != null && p.isIn(camp) && (!doctorsAlone || p.kind == Person.DOCTOR)) {
                    n++;
                }
            }
            return n;
        }

        int countGraded(int camp) {
            int n = 0;
            for (int i = 0; i < size; i++) {
                Person p = people[i];
                if (p != null && p.isIn(camp) && p.grade > 0) {
                    n++;
                }
            }
            return n;
        }

        int countHandedOver(int side, int from, int to) {
            int n = 0;
            for (int i = 0; i < size; i++) {
                Person p = people[i];
                boolean isDone = p != null && p.side == side && p.state == Person.HANDED_OVER;
                if (isDone && p.stateDay >= from && p.stateDay <= to) {
                    n++;
                }
            }
            return n;
        }

        int addSought(int camp, int a, int b) {
            if (!land.isCamp(camp) || !isDay(a) || !isDay(b) || a > b) {
                return NONE;
            }
            if (soughtSize >= MOST_SOUGHT) {
                return FULL;
            }
            soughtCamp[soughtSize] = camp;
            soughtFrom[soughtSize] = a;
            soughtTo[soughtSize] = b;
            soughtSize++;
            return soughtSize;
        }

        int seek(int side) {
            if (!isSide(side)) {
                return NONE;
            }
            if (soughtSize == 0) {
                return STATE;
            }
            foundSize = 0;
            for (int i = 0; i < size; i++) {
                Person p = people[i];
                if (p != null && p.side == side && p.state <= Person.ABOARD && couldBeSought(i)) {
                    foundOnes[foundSize] = i;
                    foundSize++;
                }
            }
            return foundSize;
        }

        private boolean couldBeSought(int person) {
            for (int s = 0; s < stays; s++) {
                if (stayOwner[s] != person) {
                    continue;
                }
                int to = stayTo[s] == NONE ? day : stayTo[s];
                for (int t = 0; t < soughtSize; t++) {
                    boolean meets = Math.max(stayFrom[s], soughtFrom[t]) <= Math.min(to, soughtTo[t]);
                    if (meets && stayCamp[s] != soughtCamp[t]) {
                        return false;
                    }
                }
            }
            return true;
        }

        int tellFound(int i) {
            if (i == -1) {
                soughtSize = 0;
                return 1;
            }
            return i >= 0 && i < foundSize ? foundOnes[i] : NONE;
        }

        int actOf(int person, int act, int x) {
            Person p = get(person);
            if (p == null || !within(act, Person.GOES, Person.TELLS)) {
                return NO_VALUE;
            }
            bodiesKept = 0;
            return p.perform(act, x, this);
        }

        void noteBody(int body) {
            if (bodiesKept < TRACE_KEPT) {
                bodiesRun[bodiesKept] = body;
                bodiesKept++;
            }
        }

        int tellTrace(int i) {
            return i >= 0 && i < bodiesKept ? bodiesRun[i] : NONE;
        }

        int take(int person, int k) {
            Person p = get(person);
            if (p == null || !within(k, 0, Person.KINDS - 1)) {
                return NONE;
            }
            return p.isUnder(k) ? p.kind : CAST;
        }
    }

    /** Facts, the letters by which the other side knows them, and promises. */
    private static final class Tidings {
        static final int SEEN = 0, ASKED = 1, NAMED = 2;
        private static final int MOST_FACTS = 300, MOST_LETTERS = 60, MOST_PROMISES = 40, LETTER_DAYS = 7;

        int facts;
        int letters;
        int promises;
        private final Crowd crowd;
        private final int[] factPerson = new int[MOST_FACTS];
        private final int[] factSort = new int[MOST_FACTS];
        private final int[] factValue = new int[MOST_FACTS];
        private final int[] factDay = new int[MOST_FACTS];
        // The DAY on which the first letter with it comes; NEVER while none was sent.
        private final int[] factComes = new int[MOST_FACTS];
        private int latestLetter = NONE;
        private final int[] promiseSide = new int[MOST_PROMISES];
        private final int[] promiseNumber = new int[MOST_PROMISES];
        private final int[] promiseFrom = new int[MOST_PROMISES];
        private final int[] promiseTo = new int[MOST_PROMISES];

        Tidings(Crowd crowd) {
            this.crowd = crowd;
        }

        int addFact(int person, int sort, int v) {
            Person p = crowd.get(person);
            if (p == null || !within(sort, SEEN, NAMED) || !within(v, 0, 1)) {
                return NONE;
            }
            if (sort == SEEN && p.state != Person.IN_CAMP) {
                return STATE;
            }
            if (facts >= MOST_FACTS) {
                return FULL;
            }
            factPerson[facts] = person;
            factSort[facts] = sort;
            factValue[facts] = sort == SEEN ? p.grade : v;
            factDay[facts] = crowd.day;
            // A letter of today that went ahead of the fact carries it, too.
            factComes[facts] = latestLetter == crowd.day ? crowd.day + LETTER_DAYS : NEVER;
            facts++;
            return facts;
        }

        int addLetter() {
            if (letters >= MOST_LETTERS) {
                return FULL;
            }
            latestLetter = crowd.day;
            for (int i = 0; i < facts; i++) {
                if (factComes[i] == NEVER) {
                    factComes[i] = crowd.day + LETTER_DAYS;
                }
            }
            letters++;
            return letters;
        }

        int tellKnown(int side, int person, int sort, int k) {
            Person p = crowd.get(person);
            if (!isSide(side) || p == null || !within(sort, SEEN, NAMED) || !isDay(k)) {
                return NONE;
            }
            return valueKnown(side, p, sort, k);
        }

        int valueKnown(int side, Person p, int sort, int k) {
            boolean tellsIt = sort == NAMED ? side != p.side : side == p.side;
            for (int i = facts - 1; i >= 0; i--) {
                if (factPerson[i] == p.number && factSort[i] == sort) {
                    int from = tellsIt ? factDay[i] : factComes[i];
                    if (from <= k) {
                        return factValue[i];
                    }
                }
            }
            return 0;
        }

        int addPromise(int side, int n, int last) {
            if (!isSide(side) || !within(n, 1, 99) || !within(last, crowd.day, LAST_DAY)) {
                return NONE;
            }
            if (promises >= MOST_PROMISES) {
                return FULL;
            }
            promiseSide[promises] = side;
            promiseNumber[promises] = n;
            promiseFrom[promises] = crowd.day;
            promiseTo[promises] = last;
            promises++;
            return promises - 1;
        }

        int tellPromise(int i, int what) {
            if (i < 0 || i >= promises) {
                return NONE;
            }
            switch (what) {
                case 0: return promiseSide[i];
                case 1: return promiseNumber[i];
                case 2: return promiseTo[i];
                case 3: return crowd.countHandedOver(promiseSide[i], promiseFrom[i], promiseTo[i]);
                case 4: return isBroken(i, crowd.day) ? 1 : 0;
                default: return NONE;
            }
        }

        private boolean isBroken(int i, int d) {
            return d > promiseTo[i]
                && crowd.countHandedOver(promiseSide[i], promiseFrom[i], promiseTo[i]) < promiseNumber[i];
        }

        int tellBroken(int side, int d) {
            if (!isSide(side) || !within(d, 0, crowd.day)) {
                return NONE;
            }
            return countBroken(side, d);
        }

        int countBroken(int side, int d) {
            int n = 0;
            for (int i = 0; i < promises; i++) {
                if (promiseSide[i] == side && isBroken(i, d)) {
                    n++;
                }
            }
            return n;
        }
    }

    /** Reads a text by its grammar: what it gives, by which line, and where its fault is. */
    private static final class Reader {
        private static final int MOST_OPEN = 8, MOST_DIGITS = 4, END = -1;
        private static final int COMPARE = 2, LAST_RANK = 4;
        private static final String NAMES = "kgynadbct";

        // The values of NAMES, in their order.
        final int[] values = new int[9];
        int fault;
        int line;
        private byte[] bytes = new byte[0];
        private int end;
        private int at;

        int readAll(byte[] tape, int size) {
            bytes = tape;
            end = Math.min(size, tape.length);
            at = 0;
            fault = NONE;
            line = NONE;
            int given = 0;
            boolean more = true;
            for (int i = 0; i <= end && more; i++) {
                int v = readRank(0, 0);
                boolean counts = true;
                if (sign() == '?') {
                    at++;
                    counts = v != 0;
                    v = readRank(0, 0);
                }
                if (counts && line < 0) {
                    line = i;
                    given = v;
                }
                more = sign() == ';';
                if (more) {
                    at++;
                }
            }
            if (at < end) {
                fail();
            }
            return given;
        }

        /** The byte to be read next; END also behind a fault, so that nothing goes on. */
        private int sign() {
            return fault < 0 && at >= 0 && at < end ? bytes[at] & 255 : END;
        }

        private void fail() {
            if (fault < 0) {
                fault = at;
            }
        }

        /** Ranks 0 to 4 are the operators from | to *. */
        private int readRank(int rank, int open) {
            int left = readPart(rank + 1, open);
            // Each turn takes a byte at least; comparisons are not joined to one another.
            int most = rank == COMPARE ? 1 : end;
            for (int i = 0; i < most && rankOf(sign()) == rank; i++) {
                int operator = sign();
                at++;
                left = work(operator, left, readPart(rank + 1, open));
            }
            return left;
        }

        /** What the operators of the rank ahead join. */
        private int readPart(int rank, int open) {
            return rank > LAST_RANK ? readOperand(open) : readRank(rank, open);
        }

        private static int rankOf(int operator) {
            switch (operator) {
                case '|': return 0;
                case '&': return 1;
                case '<':
                case '=':
                case '>': return COMPARE;
                case '+':
                case '-': return 3;
                case '*':
                case '/': return 4;
                default: return NONE;
            }
        }

        private static int work(int operator, int left, int right) {
            switch (operator) {
                case '|': return left != 0 || right != 0 ? 1 : 0;
                case '&': return left != 0 && right != 0 ? 1 : 0;
                case '<': return left < right ? 1 : 0;
                case '=': return left == right ? 1 : 0;
                case '>': return left > right ? 1 : 0;
                case '+': return left + right;
                case '-': return left - right;
                case '*': return left * right;
                case '/': return right == 0 ? 0 : left / right;
                default: return 0;
            }
        }

        private int readOperand(int open) {
            int c = sign();
            int number = 0;
            for (int i = 0; i < MOST_DIGITS && sign() >= '0' && sign() <= '9'; i++) {
                number = number * 10 + sign() - '0';
                at++;
            }
            if (c >= '0' && c <= '9') {
                return number;
            }
            if (c == '!' || c == '(') {
                return readOpen(c, open);
            }
            int name = c == END ? NONE : NAMES.indexOf((char) c);
            if (name < 0 || name >= values.length) {
                fail();
                return 0;
            }
            at++;
            return values[name];
        }

        private int readOpen(int c, int open) {
            if (open >= MOST_OPEN) {
                fail();
                return 0;
            }
            at++;
            if (c == '!') {
                return readOperand(open + 1) == 0 ? 1 : 0;
            }
            int v = readRank(0, open + 1);
            if (sign() == ')') {
                at++;
            } else {
                fail();
            }
            return v;
        }
    }

    /** The tape, the texts made of it, and what they say of persons. */
    private static final class Texts {
        private static final int MOST_BYTES = 160, MOST = 20;
        private static final int OWED = 0, STAY = 1, WORTH = 2;

        int size;
        int tapeSize;
        private final Crowd crowd;
        private final Tidings tidings;
        private final Reader reader = new Reader();
        private final byte[] tape = new byte[MOST_BYTES];
        private final byte[][] bodies = new byte[MOST][MOST_BYTES];
        private final int[] bodySize = new int[MOST];
        // 10 times the PARTY, and the USE.
        private final int[] purpose = new int[MOST];
        private final int[] madeOn = new int[MOST];
        private final int[] forceFrom = new int[MOST];

        Texts(Crowd crowd, Tidings tidings) {
            this.crowd = crowd;
            this.tidings = tidings;
        }

        int addBytes(int n, int v) {
            if (!within(n, 1, 4)) {
                return NONE;
            }
            if (tapeSize > MOST_BYTES - n) {
                return FULL;
            }
            for (int i = 0; i < n; i++) {
                tape[tapeSize] = (byte) (v >> (8 * i));
                tapeSize++;
            }
            return tapeSize;
        }

        private static boolean isPurpose(int what) {
            return within(what, 0, 39) && what % 10 <= WORTH;
        }

        int addText(int what, int from) {
            if (!isPurpose(what) || !isDay(from)) {
                return NONE;
            }
            if (size >= MOST) {
                return FULL;
            }
            int length = tapeSize;
            tapeSize = 0;
            reader.readAll(tape, length);
            if (reader.fault >= 0) {
                return -100 - reader.fault;
            }
            System.arraycopy(tape, 0, bodies[size], 0, length);
            bodySize[size] = length;
            purpose[size] = what;
            madeOn[size] = crowd.day;
            forceFrom[size] = from;
            size++;
            return size - 1;
        }

        int tellInForce(int what, int d, int k) {
            if (!isPurpose(what) || !isDay(d) || !isDay(k)) {
                return NONE;
            }
            int text = findInForce(what, d, k);
            return text < 0 ? NOT : text;
        }

        private int findInForce(int what, int d, int k) {
            for (int i = size - 1; i >= 0; i--) {
                if (purpose[i] == what && madeOn[i] <= k && forceFrom[i] <= d) {
                    return i;
                }
            }
            return NONE;
        }

        /** What a text gives; the reader then holds its line. */
        private int give(int text, Person p, int side, int d, int k) {
            if (text < 0 || text >= size) {
                return 0;
            }
            int[] v = reader.values;
            v[0] = p.kind;
            v[1] = tidings.valueKnown(side, p, Tidings.SEEN, k);
            v[2] = tidings.valueKnown(side, p, Tidings.ASKED, k);
            v[3] = tidings.valueKnown(side, p, Tidings.NAMED, k);
            v[4] = p.age;
            v[5] = Math.max(0, d - p.came);
            v[6] = tidings.countBroken(1 - side, Math.min(d, crowd.day));
            boolean held = p.state == Person.IN_CAMP;
            v[7] = held ? crowd.countIn(p.place, false) : 0;
            v[8] = held ? crowd.countIn(p.place, true) : 0;
            return reader.readAll(bodies[text], bodySize[text]);
        }

        int tellSays(int text, int person, int what, int d, int k) {
            Person p = crowd.get(person);
            if (text < 0 || text >= size || p == null || !isDay(d) || !isDay(k)) {
                return NO_VALUE;
            }
            switch (what) {
                case 0:
                case 10: return give(text, p, what / 10, d, k);
                case 1:
                case 11:
                    give(text, p, what / 10, d, k);
                    return reader.line;
                default: return NO_VALUE;
            }
        }

        int tellOwed(int person, int d, int k) {
            Person p = crowd.get(person);
            if (p == null || !isDay(d) || !isDay(k)) {
                return NONE;
            }
            for (int party = 0; party < 2; party++) {
                int text = findInForce(10 * party + OWED, d, k);
                if (give(text, p, p.side, d, k) != 0) {
                    return 100 * (party + 1) + reader.line;
                }
            }
            return 0;
        }

        int tellMayStay(int person, int d, int k) {
            Person p = crowd.get(person);
            if (p == null || !isDay(d) || !isDay(k)) {
                return NONE;
            }
            return allowStay(p, d, k) ? 1 : 0;
        }

        boolean allowStay(Person p, int d, int k) {
            if (tidings.valueKnown(p.side, p, Tidings.ASKED, k) == 0) {
                return false;
            }
            int text = findInForce(10 + STAY, d, k);
            if (text < 0) {
                text = findInForce(STAY, d, k);
            }
            return give(text, p, p.side, d, k) != 0;
        }

        int tellWorth(int person, int side, int d, int k) {
            Person p = crowd.get(person);
            if (p == null || !isSide(side) || !isDay(d) || !isDay(k)) {
                return NONE;
            }
            return rate(p, side, d, k);
        }

        int rate(Person p, int side, int d, int k) {
            int text = findInForce(10 * (2 + side) + WORTH, d, k);
            return text < 0 ? 1 : Math.max(0, Math.min(999, give(text, p, side, d, k)));
        }
    }

    /** Rows of lists in two alphabets, which of them are one, and the tables that lists come from. */
    private static final class Rolls {
        private static final int MOST = 100, LETTERS = 26, BASE = 28, UNREAD = 27, LONGEST = 5;
        private static final int TABLES = 4, ITEMS = 60, NOTHING = -1, BYTES = 0, SHORTS = 1;

        int size;
        private final int[] sideOf = new int[MOST];
        private final int[][] letters = new int[MOST][LONGEST];
        private final int[] length = new int[MOST];
        private final int[] ageOf = new int[MOST];
        private final int[] unitOf = new int[MOST];
        // Whether letter x of SIDE 0 can be letter y of SIDE 1, at x * BASE + y.
        private final boolean[] alike = new boolean[BASE * BASE];
        // The least row with which each row is joined.
        private final int[] groupOf = new int[MOST];
        private final int[] reached = new int[MOST];
        private final short[][] items = new short[TABLES][ITEMS];
        private final int[] tableSort = new int[TABLES];
        private final int[] tableSize = new int[TABLES];
        private int blankMark = -1;

        Rolls() {
            for (int x = 1; x <= LETTERS; x++) {
                alike[x * BASE + x] = true;
            }
            for (int t = 0; t < TABLES; t++) {
                tableSort[t] = NOTHING;
            }
        }

        private boolean isRow(int row) {
            return row >= 0 && row < size && row < MOST;
        }

        int addRow(int side, int word, int age, int unit) {
            int n = wordLength(word);
            if (!isSide(side) || n < 1 || !within(age, -1, 99) || !within(unit, -1, 99)) {
                return NONE;
            }
            if (size >= MOST) {
                return FULL;
            }
            int left = word;
            for (int i = 0; i < LONGEST; i++) {
                letters[size][i] = left % BASE;
                left /= BASE;
            }
            length[size] = n;
            sideOf[size] = side;
            ageOf[size] = age;
            unitOf[size] = unit;
            size++;
            return size - 1;
        }

        /** How many letters a word has; NONE if the number is no word. */
        private static int wordLength(int word) {
            int left = word;
            int n = 0;
            for (int i = 0; i < LONGEST && left > 0; i++) {
                if (left % BASE == 0) {
                    return NONE;
                }
                left /= BASE;
                n++;
            }
            return left == 0 && n > 0 ? n : NONE;
        }

        int setCanBe(int x, int y, int is) {
            if (!within(x, 1, LETTERS) || !within(y, 1, LETTERS) || !within(is, 0, 1)) {
                return NONE;
            }
            int was = alike[x * BASE + y] ? 1 : 0;
            alike[x * BASE + y] = is == 1;
            return was;
        }

        int tellSame(int a, int b, int what) {
            if (!isRow(a) || !isRow(b) || sideOf[a] == sideOf[b] || !within(what, 0, 1)) {
                return NONE;
            }
            int why = whyApart(a, b);
            if (what == 1) {
                return why;
            }
            if (why != 0) {
                return 0;
            }
            return isWhole(a) && isWhole(b) ? 2 : 1;
        }

        /** Why two rows of unlike sides are not one, 1 to 4; 0 if they may be. */
        private int whyApart(int a, int b) {
            int zero = sideOf[a] == 0 ? a : b;
            int one = sideOf[a] == 0 ? b : a;
            if (length[zero] != length[one]) {
                return 1;
            }
            for (int i = 0; i < length[zero] && i < LONGEST; i++) {
                int x = letters[zero][i];
                int y = letters[one][i];
                if (x != UNREAD && y != UNREAD && !alike[x * BASE + y]) {
                    return 2;
                }
            }
            if (agesDiffer(a, b, 1)) {
                return 3;
            }
            return unitsDiffer(a, b) ? 4 : 0;
        }

        private boolean agesDiffer(int a, int b, int byMoreThan) {
            return ageOf[a] >= 0 && ageOf[b] >= 0 && Math.abs(ageOf[a] - ageOf[b]) > byMoreThan;
        }

        private boolean unitsDiffer(int a, int b) {
            return unitOf[a] >= 0 && unitOf[b] >= 0 && unitOf[a] != unitOf[b];
        }

        /** All letters are read, age and unit told. */
        private boolean isWhole(int row) {
            for (int i = 0; i < length[row] && i < LONGEST; i++) {
                if (letters[row][i] == UNREAD) {
                    return false;
                }
            }
            return ageOf[row] >= 0 && unitOf[row] >= 0;
        }

        private boolean isSure(int a, int b) {
            return sideOf[a] != sideOf[b] && isWhole(a) && isWhole(b) && whyApart(a, b) == 0;
        }

        private void groupAll() {
            for (int i = 0; i < size; i++) {
                groupOf[i] = NONE;
            }
            for (int i = 0; i < size; i++) {
                if (groupOf[i] == NONE) {
                    groupFrom(i);
                }
            }
        }

        private void groupFrom(int first) {
            groupOf[first] = first;
            reached[0] = first;
            int n = 1;
            for (int i = 0; i < n && i < MOST; i++) {
                for (int b = 0; b < size; b++) {
                    if (groupOf[b] == NONE && n < MOST && isSure(reached[i], b)) {
                        groupOf[b] = first;
                        reached[n] = b;
                        n++;
                    }
                }
            }
        }

        int countJoined(int row) {
            if (!isRow(row)) {
                return NONE;
            }
            groupAll();
            int n = 0;
            for (int i = 0; i < size; i++) {
                if (groupOf[i] == groupOf[row]) {
                    n++;
                }
            }
            return n;
        }

        int tellClash(int what) {
            if (!within(what, 0, 2)) {
                return NONE;
            }
            groupAll();
            int n = 0;
            for (int a = 0; a < size; a++) {
                for (int b = a + 1; b < size; b++) {
                    if (groupOf[a] == groupOf[b] && mustBeApart(a, b)) {
                        if (what != 0) {
                            return what == 1 ? a : b;
                        }
                        n++;
                    }
                }
            }
            return what == 0 ? n : NOT;
        }

        private boolean mustBeApart(int a, int b) {
            if (sideOf[a] != sideOf[b]) {
                return whyApart(a, b) != 0;
            }
            return agesDiffer(a, b, 2) || unitsDiffer(a, b);
        }

        private static boolean isTable(int table) {
            return within(table, 0, TABLES - 1);
        }

        int setTable(int table, int sort, int n) {
            if (!isTable(table) || !within(sort, NOTHING, SHORTS)) {
                return NONE;
            }
            if (sort != NOTHING && !within(n, 0, ITEMS)) {
                return NONE;
            }
            tableSort[table] = sort;
            tableSize[table] = sort == NOTHING ? 0 : n;
            for (int i = 0; i < ITEMS; i++) {
                items[table][i] = 0;
            }
            return 1;
        }

        int setItem(int table, int i, int v) {
            if (!isTable(table)) {
                return NONE;
            }
            if (tableSort[table] == NOTHING) {
                return CAST;
            }
            if (i < 0 || i >= tableSize[table]) {
                return NONE;
            }
            items[table][i] = tableSort[table] == BYTES ? (byte) v : (short) v;
            return 1;
        }

        int tellItem(int table, int i) {
            if (!isTable(table) || i < 0 || i >= tableSize[table]) {
                return NO_VALUE;
            }
            return items[table][i];
        }

        int setBlank(int v) {
            int was = blankMark;
            blankMark = v;
            return was;
        }

        int takeList(int side, int table, int i, int n) {
            if (!isSide(side) || !isTable(table) || !within(n, 1, 20)) {
                return NONE;
            }
            if (tableSort[table] != SHORTS) {
                return CAST;
            }
            if (i < 0) {
                return 0;
            }
            int came = 0;
            for (int at = i; came < n && at <= tableSize[table] - 3; at += 3) {
                if (!takeThree(side, items[table], at)) {
                    return came;
                }
                came++;
            }
            return came;
        }

        /** Makes a row of the three items from a place on; false if they are none, or there is no room. */
        private boolean takeThree(int side, short[] from, int at) {
            if (at < 0 || at > from.length - 3) {
                return false;
            }
            int age = from[at];
            int unit = from[at + 1];
            int letter = from[at + 2];
            if (!isToldOrBlank(age) || !isToldOrBlank(unit) || !within(letter, 1, UNREAD)) {
                return false;
            }
            return addRow(side, letter, age == blankMark ? -1 : age, unit == blankMark ? -1 : unit) >= 0;
        }

        private boolean isToldOrBlank(int v) {
            return v == blankMark || within(v, 0, 99);
        }
    }

    /** Lists of an exchange, whether it is let, and the best one. */
    private static final class Trade {
        private static final int LONGEST = 7, SETS = 128;
        private static final int LET = 0, AWAY = 1, STAYS = 2, WORTH_0 = 3, WORTH_1 = 4, CHILD_PARTED = 5,
            DOCTORS_LACK = 6;

        private final Crowd crowd;
        private final Texts texts;
        private final int[][] lists = new int[2][LONGEST];
        private final int[] sizes = new int[2];
        private final int[] bestSets = {NONE, NONE};
        private int ratioTold = 10;
        // Of each one on a list: AWAY, STAYS, or LET.
        private final int[][] bars = new int[2][LONGEST];
        // Of each one on a list, its worth for a side, at 2 * list + side.
        private final int[][] worths = new int[4][LONGEST];
        private final int[] graded = new int[Land.CAMPS];
        private final int[] doctors = new int[Land.CAMPS];
        // Of each set of a list: the worth of all in it, at 2 * list + side; and 1 if it alone may go.
        private final int[][] sums = new int[4][SETS];
        private final int[][] mayGo = new int[2][SETS];

        Trade(Crowd crowd, Texts texts) {
            this.crowd = crowd;
            this.texts = texts;
        }

        private int placeOf(int list, int person) {
            for (int i = 0; i < sizes[list]; i++) {
                if (lists[list][i] == person) {
                    return i;
                }
            }
            return NONE;
        }

        int addOffer(int person) {
            Person p = crowd.get(person);
            if (p == null || placeOf(p.side, person) >= 0) {
                return NONE;
            }
            if (p.state != Person.IN_CAMP) {
                return STATE;
            }
            if (sizes[p.side] >= LONGEST) {
                return FULL;
            }
            lists[p.side][sizes[p.side]] = person;
            sizes[p.side]++;
            return sizes[p.side];
        }

        int setRatio(int v) {
            if (!within(v, 1, 99)) {
                return NONE;
            }
            int was = ratioTold;
            ratioTold = v;
            return was;
        }

        /** Asks the texts once for each one on a list, and not for each set. */
        private void weigh() {
            int day = crowd.day;
            for (int c = 0; c < Land.CAMPS; c++) {
                graded[c] = crowd.countGraded(c);
                doctors[c] = crowd.countIn(c, true);
            }
            for (int list = 0; list < 2; list++) {
                for (int i = 0; i < sizes[list]; i++) {
                    Person p = crowd.get(lists[list][i]);
                    if (p == null || p.state != Person.IN_CAMP) {
                        bars[list][i] = AWAY;
                        continue;
                    }
                    bars[list][i] = texts.allowStay(p, day, day) ? STAYS : LET;
                    worths[2 * list][i] = texts.rate(p, 0, day, day);
                    worths[2 * list + 1][i] = texts.rate(p, 1, day, day);
                }
            }
        }

        private static boolean isIn(int set, int i) {
            return ((set >> i) & 1) != 0;
        }

        private boolean isSetOf(int list, int set) {
            return set >= 0 && set < (1 << sizes[list]);
        }

        int verdict(int set0, int set1) {
            if (!isSetOf(0, set0) || !isSetOf(1, set1)) {
                return NONE;
            }
            weigh();
            if (isBarred(0, set0, AWAY) || isBarred(1, set1, AWAY)) {
                return AWAY;
            }
            if (isBarred(0, set0, STAYS) || isBarred(1, set1, STAYS)) {
                return STAYS;
            }
            if (sumWorth(0, set0, 0) > sumWorth(1, set1, 0)) {
                return WORTH_0;
            }
            if (sumWorth(1, set1, 1) > sumWorth(0, set0, 1)) {
                return WORTH_1;
            }
            if (partsChild(0, set0) || partsChild(1, set1)) {
                return CHILD_PARTED;
            }
            return lacksDoctors(0, set0) || lacksDoctors(1, set1) ? DOCTORS_LACK : LET;
        }

        private boolean isBarred(int list, int set, int bar) {
            for (int i = 0; i < sizes[list]; i++) {
                if (isIn(set, i) && bars[list][i] == bar) {
                    return true;
                }
            }
            return false;
        }

        private int sumWorth(int list, int set, int side) {
            int sum = 0;
            for (int i = 0; i < sizes[list]; i++) {
                if (isIn(set, i)) {
                    sum += worths[2 * list + side][i];
                }
            }
            return sum;
        }

        private boolean partsChild(int list, int set) {
            for (int i = 0; i < sizes[list]; i++) {
                Person p = crowd.get(lists[list][i]);
                if (p == null || p.with < 0) {
                    continue;
                }
                int other = placeOf(list, p.with);
                if (other >= 0 && isIn(set, i) != isIn(set, other)) {
                    return true;
                }
            }
            return false;
        }

        private boolean lacksDoctors(int list, int set) {
            for (int c = 0; c < Land.CAMPS; c++) {
                int gradedLeft = graded[c];
                int doctorsLeft = doctors[c];
                for (int i = 0; i < sizes[list]; i++) {
                    Person p = crowd.get(lists[list][i]);
                    if (p != null && isIn(set, i) && p.isIn(c)) {
                        gradedLeft -= p.grade > 0 ? 1 : 0;
                        doctorsLeft -= p.kind == Person.DOCTOR ? 1 : 0;
                    }
                }
                if (doctorsLeft < Math.min(doctorsWanted(gradedLeft), doctors[c])) {
                    return true;
                }
            }
            return false;
        }

        private int doctorsWanted(int gradedOnes) {
            return ratioTold < 1 ? 0 : (gradedOnes + ratioTold - 1) / ratioTold;
        }

        int chooseBest() {
            if (sizes[0] == 0 || sizes[1] == 0) {
                return STATE;
            }
            weigh();
            weighSets(0);
            weighSets(1);
            int most = NONE;
            int least = 0;
            for (int a = 0; isSetOf(0, a) && a < SETS; a++) {
                for (int b = 0; isSetOf(1, b) && b < SETS; b++) {
                    int n = Integer.bitCount(a) + Integer.bitCount(b);
                    int unlike = Math.abs(Integer.bitCount(a) - Integer.bitCount(b));
                    if ((n > most || n == most && unlike < least) && isLet(a, b)) {
                        most = n;
                        least = unlike;
                        bestSets[0] = a;
                        bestSets[1] = b;
                    }
                }
            }
            sizes[0] = 0;
            sizes[1] = 0;
            return most;
        }

        private void weighSets(int list) {
            for (int set = 0; isSetOf(list, set) && set < SETS; set++) {
                boolean barred = isBarred(list, set, AWAY) || isBarred(list, set, STAYS)
                    || partsChild(list, set) || lacksDoctors(list, set);
                mayGo[list][set] = barred ? 0 : 1;
                sums[2 * list][set] = sumWorth(list, set, 0);
                sums[2 * list + 1][set] = sumWorth(list, set, 1);
            }
        }

        private boolean isLet(int set0, int set1) {
            return mayGo[0][set0] == 1 && mayGo[1][set1] == 1
                && sums[0][set0] <= sums[2][set1] && sums[3][set1] <= sums[1][set0];
        }

        int tellBest(int side) {
            return isSide(side) ? bestSets[side] : NONE;
        }
    }

    /** One ship that fetches camps from the harbour by voyages. */
    private static final class Ship {
        private static final int MOST = 6, SETS = 64;

        private final Land land;
        private final Crowd crowd;
        private int told;
        private final int[] camps = new int[MOST];
        private final int[] stretchersOf = new int[MOST];
        private final int[] feetOf = new int[MOST];
        private final int[] readyOf = new int[MOST];
        // Of each set of camps: whether the ship takes it, how many people, and the DAY when all are ready.
        private final boolean[] fits = new boolean[SETS];
        private final int[] people = new int[SETS];
        private final int[] ready = new int[SETS];
        private int turnDays;
        private final int[] trialSets = new int[MOST];
        private final int[] trialDays = new int[MOST];
        private int leastSum;
        private final int[] bestSets = new int[MOST];
        private final int[] bestDays = new int[MOST];
        private int voyages;

        Ship(Land land, Crowd crowd) {
            this.land = land;
            this.crowd = crowd;
        }

        int addCamp(int camp, int stretchers, int feet) {
            if (!land.isCamp(camp) || !within(stretchers, 0, 99) || !within(feet, 0, 99) || stretchers + feet == 0) {
                return NONE;
            }
            for (int i = 0; i < told; i++) {
                if (camps[i] == camp) {
                    return NONE;
                }
            }
            if (land.farFrom(camp, Land.HARBOUR) < 0) {
                return NOT;
            }
            if (told >= MOST) {
                return FULL;
            }
            camps[told] = camp;
            stretchersOf[told] = stretchers;
            feetOf[told] = feet;
            told++;
            return told;
        }

        int plan(int stretchers, int feet, int turn) {
            if (!within(stretchers, 0, 999) || !within(feet, 0, 999) || !within(turn, 1, 30)) {
                return NONE;
            }
            if (told == 0) {
                return STATE;
            }
            for (int i = 0; i < told; i++) {
                int far = land.farFrom(camps[i], Land.HARBOUR);
                if (stretchersOf[i] > stretchers || feetOf[i] > feet || far < 0) {
                    return NOT;
                }
                readyOf[i] = crowd.day + far;
            }
            weighSets(stretchers, feet);
            turnDays = turn;
            leastSum = NEVER;
            sailOn(0, (1 << told) - 1, crowd.day, 0);
            told = 0;
            return leastSum;
        }

        private void weighSets(int stretchers, int feet) {
            for (int set = 1; set < SETS && set < (1 << told); set++) {
                int stretchersLeft = stretchers;
                int feetLeft = feet;
                people[set] = 0;
                ready[set] = crowd.day;
                for (int i = 0; i < told; i++) {
                    if (((set >> i) & 1) != 0) {
                        stretchersLeft -= stretchersOf[i];
                        feetLeft -= feetOf[i];
                        people[set] += stretchersOf[i] + feetOf[i];
                        ready[set] = Math.max(ready[set], readyOf[i]);
                    }
                }
                fits[set] = stretchersLeft >= 0 && feetLeft >= 0;
            }
        }

        /** Tries all voyages from the i-th on, least sets first, so that the first of several is kept. */
        private void sailOn(int i, int rest, int free, int sum) {
            if (sum >= leastSum) {
                return;
            }
            if (rest == 0) {
                keepTrial(i, sum);
                return;
            }
            if (i >= MOST) {
                return;
            }
            for (int set = 1; set <= rest && set < SETS; set++) {
                if ((set & rest) == set && fits[set]) {
                    sailWith(set, i, rest - set, free, sum);
                }
            }
        }

        private void sailWith(int set, int i, int rest, int free, int sum) {
            int day = Math.max(free, ready[set]);
            trialSets[i] = set;
            trialDays[i] = day;
            sailOn(i + 1, rest, day + turnDays, sum + people[set] * day);
        }

        private void keepTrial(int n, int sum) {
            leastSum = sum;
            voyages = n;
            for (int i = 0; i < n && i < MOST; i++) {
                bestSets[i] = trialSets[i];
                bestDays[i] = trialDays[i];
            }
        }

        int tellVoyage(int i, int what) {
            if (i < 0 || i >= voyages || !within(what, 0, 1)) {
                return NONE;
            }
            return what == 0 ? bestSets[i] : bestDays[i];
        }
    }

    /** Two rows of walkers on the bridge, neither ahead of the other by more than told. */
    private static final class Bridge {
        private static final int MOST = 10, LONGEST_ROW = 90, PLACES = LONGEST_ROW + 1, WALKS_IN_ONE = 16;

        private final int[][] minutesOf = new int[2][MOST];
        private final int[] sizes = new int[2];
        // Of each row, by how many minutes it has walked in all: how many are over, and 1 if nobody walks.
        private final int[][] over = new int[2][PLACES];
        private final int[][] rests = new int[2][PLACES];
        private final int[] total = new int[2];
        // The least minutes to the end when row 1 has walked b minutes, at b, or at PLACES + b if row 0 has walked an
        // odd number of them: the minute that is looked at needs no others.
        private final int[] least = new int[2 * PLACES];
        // Who walks then, row 0 (1), row 1 (2) or both (3): two bits of each a * PLACES + b, as the room is small.
        private final int[] walks = new int[PLACES * PLACES / WALKS_IN_ONE + 1];
        private final int[] starts = new int[2 * LONGEST_ROW];
        private int length;

        int addWalker(int row, int minutes) {
            if (!within(row, 0, 1) || !within(minutes, 1, 9)) {
                return NONE;
            }
            if (sizes[row] >= MOST) {
                return FULL;
            }
            minutesOf[row][sizes[row]] = minutes;
            sizes[row]++;
            return sizes[row];
        }

        int cross(int ahead) {
            if (!within(ahead, 1, 3)) {
                return NONE;
            }
            if (sizes[0] == 0 || sizes[1] == 0) {
                return STATE;
            }
            layOut(0);
            layOut(1);
            for (int a = total[0]; a >= 0; a--) {
                for (int b = total[1]; b >= 0; b--) {
                    decide(a, b, ahead);
                }
            }
            if (least[0] >= NEVER) {
                return NOT;
            }
            length = least[0];
            keepStarts();
            sizes[0] = 0;
            sizes[1] = 0;
            return length;
        }

        private void layOut(int row) {
            int walked = 0;
            over[row][0] = 0;
            rests[row][0] = 1;
            for (int i = 0; i < sizes[row]; i++) {
                for (int m = 1; m <= minutesOf[row][i] && walked < LONGEST_ROW; m++) {
                    boolean isOver = m == minutesOf[row][i];
                    walked++;
                    over[row][walked] = isOver ? i + 1 : i;
                    rests[row][walked] = isOver ? 1 : 0;
                }
            }
            total[row] = walked;
        }

        private void decide(int a, int b, int ahead) {
            int fewest = a == total[0] && b == total[1] ? 0 : NEVER;
            int first = 0;
            for (int i = 0; i < 3; i++) {
                // Both, row 0, row 1 is also the order of what begins, whoever is walking already.
                int walking = i == 0 ? 3 : i;
                int minutes = 1 + leastAfter(a, b, walking, ahead);
                if (minutes < fewest) {
                    fewest = minutes;
                    first = walking;
                }
            }
            least[(a & 1) * PLACES + b] = fewest;
            int place = a * PLACES + b;
            int shift = 2 * (place % WALKS_IN_ONE);
            walks[place / WALKS_IN_ONE] = walks[place / WALKS_IN_ONE] & ~(3 << shift) | first << shift;
        }

        private int walkingFrom(int a, int b) {
            int place = a * PLACES + b;
            return (walks[place / WALKS_IN_ONE] >> (2 * (place % WALKS_IN_ONE))) & 3;
        }

        /** The least minutes behind a minute in which row 0 (1), row 1 (2) or both (3) walk; NEVER if it can't be. */
        private int leastAfter(int a, int b, int walking, int ahead) {
            int stepA = walking & 1;
            int stepB = walking >> 1;
            // One who has begun goes on till he is over.
            if (stepA == 0 && rests[0][a] == 0 || stepB == 0 && rests[1][b] == 0) {
                return NEVER;
            }
            int nextA = a + stepA;
            int nextB = b + stepB;
            if (nextA > total[0] || nextB > total[1] || Math.abs(over[0][nextA] - over[1][nextB]) > ahead) {
                return NEVER;
            }
            return least[(nextA & 1) * PLACES + nextB];
        }

        private void keepStarts() {
            int a = 0;
            int b = 0;
            for (int m = 0; m < length && m < starts.length && a < PLACES && b < PLACES; m++) {
                int walking = walkingFrom(a, b);
                int stepA = walking & 1;
                int stepB = walking >> 1;
                starts[m] = rests[0][a] * stepA + 2 * rests[1][b] * stepB;
                a += stepA;
                b += stepB;
            }
        }

        int tellBegan(int m) {
            return m >= 0 && m < length && m < starts.length ? starts[m] : NONE;
        }
    }

    /** Rounds of lists, and the order in which most have come before the other stops. */
    private static final class Rounds {
        private static final int MOST = 6, MOST_AIMS = 4;

        private final int[] goes = new int[MOST];
        private final int[] comes = new int[MOST];
        private int size;
        private final int[] aims = new int[MOST_AIMS];
        private int aimSize;
        private final int[] trial = new int[MOST];
        private int most;
        private final int[] bestOrder = new int[MOST];
        private int orderSize;

        int addList(int go, int come) {
            if (!within(go, 0, 99) || !within(come, 0, 99)) {
                return NONE;
            }
            if (size >= MOST) {
                return FULL;
            }
            goes[size] = go;
            comes[size] = come;
            size++;
            return size;
        }

        int addAim(int v) {
            if (!within(v, 1, 999)) {
                return NONE;
            }
            if (aimSize >= MOST_AIMS) {
                return FULL;
            }
            aims[aimSize] = v;
            aimSize++;
            return aimSize;
        }

        int arrange() {
            if (size == 0 || aimSize == 0) {
                return STATE;
            }
            most = NONE;
            orderSize = size;
            tryFrom(0, 0);
            size = 0;
            aimSize = 0;
            return most;
        }

        /** Tries all orders from a place on, least places first, so that the first of several is kept. */
        private void tryFrom(int place, int used) {
            if (place >= size || place >= MOST) {
                keepIfBetter();
                return;
            }
            for (int i = 0; i < size; i++) {
                if (((used >> i) & 1) == 0) {
                    tryWith(i, place, used | (1 << i));
                }
            }
        }

        private void tryWith(int i, int place, int used) {
            trial[place] = i;
            tryFrom(place + 1, used);
        }

        private void keepIfBetter() {
            int least = NEVER;
            for (int i = 0; i < aimSize; i++) {
                least = Math.min(least, comeTill(aims[i]));
            }
            if (least > most) {
                most = least;
                System.arraycopy(trial, 0, bestOrder, 0, MOST);
            }
        }

        private int comeTill(int aim) {
            int gone = 0;
            int come = 0;
            for (int i = 0; i < size && gone < aim; i++) {
                gone += goes[trial[i]];
                come += comes[trial[i]];
            }
            return come;
        }

        int tellOrder(int i) {
            return i >= 0 && i < orderSize ? bestOrder[i] : NONE;
        }
    }
}
