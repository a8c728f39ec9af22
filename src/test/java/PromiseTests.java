/** For each promise of the document: ordinary answers, the edges that it names, and wrong inputs. */
public final class PromiseTests {
    private static final int NONE = NameRolls.NONE, FULL = NameRolls.FULL, STATE = NameRolls.STATE,
        NOT = NameRolls.NOT, CAST = NameRolls.CAST, NO_VALUE = NameRolls.NO_VALUE;
    private static final int LEAST = Integer.MIN_VALUE, MOST = Integer.MAX_VALUE;
    private static int wrong = 0;
    private static int asked = 0;

    private static void due(int promise, String what, int got, int want) {
        asked++;
        if (got != want) {
            wrong++;
            System.out.println("promise " + promise + ": " + what + " answered " + got + ", due is " + want);
        }
    }

    private static void feed(NameRolls x, String s) {
        for (int i = 0; i < s.length(); i++) {
            due(19, "feed of " + s, x.feed(1, s.charAt(i)), i + 1);
        }
    }

    private static int text(NameRolls x, int what, int from, String s) {
        feed(x, s);
        return x.text(what, from);
    }

    /** Two camps of SIDE 0 (0, 1) and one of SIDE 1 (2), all tied to the harbour and the bridge. */
    private static NameRolls land() {
        NameRolls x = new NameRolls();
        x.camp(0, 20);
        x.camp(0, 20);
        x.camp(1, 20);
        x.road(0, 1, 2);
        x.road(0, 16, 3);
        x.road(1, 17, 4);
        x.road(2, 16, 1);
        x.road(2, 17, 5);
        return x;
    }

    public static void main(String[] args) {
        newObject();
        days();
        camps();
        roads();
        far();
        farThroughOthers();
        rises();
        persons();
        personsFull();
        moves();
        movesAndBeds();
        staysFull();
        heals();
        becomes();
        ofPerson();
        stays();
        facts();
        letters();
        known();
        promises();
        broken();
        feeds();
        texts();
        faults();
        inForce();
        says();
        owed();
        mayStay();
        worth();
        rows();
        canBe();
        same();
        joined();
        clashes();
        lists();
        offers();
        judge();
        doctors();
        best();
        loads();
        sails();
        walkers();
        bridges();
        sought();
        rounds();
        orders();
        acts();
        taken();
        tables();
        counts();
        System.out.println(wrong == 0 ? asked + " answers are as due" : wrong + " answers are not as due");
        if (wrong != 0) {
            System.exit(1);
        }
    }

    private static void newObject() {
        NameRolls x = new NameRolls();
        for (int what = 0; what <= 18; what++) {
            due(1, "count(" + what + ") of a new object", x.count(what), 0);
        }
        due(1, "of(0, 0)", x.of(0, 0), NO_VALUE);
        due(1, "far(0, 16)", x.far(0, 16), NONE);
        due(1, "inForce(0, 0, 0)", x.inForce(0, 0, 0), NOT);
        due(1, "bestOf(0)", x.bestOf(0), NONE);
        due(1, "voyage(0, 0)", x.voyage(0, 0), NONE);
        due(1, "began(0)", x.began(0), NONE);
        due(1, "found(0)", x.found(0), NONE);
        due(1, "ordered(0)", x.ordered(0), NONE);
        due(1, "trace(0)", x.trace(0), NONE);
    }

    private static void days() {
        NameRolls x = new NameRolls();
        due(2, "days(0)", x.days(0), NONE);
        due(2, "days(61)", x.days(61), NONE);
        due(2, "days(-1)", x.days(-1), NONE);
        due(2, "days(most)", x.days(MOST), NONE);
        due(2, "days(1)", x.days(1), 1);
        due(2, "days(60)", x.days(60), 61);
        for (int i = 0; i < 8; i++) {
            x.days(60);
        }
        due(2, "days(60) beyond 600", x.days(60), NONE);
        due(2, "days(59) to 600", x.days(59), 600);
        due(2, "days(1) at 600", x.days(1), NONE);
        due(2, "count(2)", x.count(2), 600);
        comeAndRise();
    }

    private static void comeAndRise() {
        NameRolls x = land();
        x.person(2, 0, 30, -1, 1);
        x.person(2, 0, 30, -1, 9);
        x.person(2, 0, 30, -1, 9);
        x.rise(9, 3);
        x.rise(1, 2);
        due(2, "move to the harbour", x.move(1, 16), 3);
        due(2, "move to a camp", x.move(2, 1), 2);
        due(2, "days(2)", x.days(2), 2);
        due(2, "state in a camp", x.of(2, 2), 0);
        due(2, "GRADE 1 lasted 2 DAYS", x.of(0, 6), 2);
        due(2, "GRADE 2 lasts for good", x.days(1), 3);
        due(2, "one that came to the harbour does not rise", x.of(1, 6), 9);
        due(2, "state at the harbour", x.of(1, 2), 2);
        due(2, "GRADE 9 becomes 10", x.of(2, 6), 10);
        due(2, "and is DEAD", x.of(2, 2), 8);
        due(2, "since that DAY", x.of(2, 8), 3);
        due(2, "GRADE 2", x.of(0, 6), 2);
        x.days(10);
        x.rise(2, 3);
        x.rise(3, 1);
        due(2, "a RISE told later waits for the next DAY", x.of(0, 6), 2);
        x.days(1);
        due(2, "one rise a DAY", x.of(0, 6), 3);
        x.days(1);
        due(2, "the next one", x.of(0, 6), 4);
    }

    private static void camps() {
        NameRolls x = new NameRolls();
        due(3, "camp(2, 1)", x.camp(2, 1), NONE);
        due(3, "camp(-1, 1)", x.camp(-1, 1), NONE);
        due(3, "camp(0, 0)", x.camp(0, 0), NONE);
        due(3, "camp(0, 100)", x.camp(0, 100), NONE);
        for (int i = 0; i < 16; i++) {
            due(3, "camp", x.camp(i % 2, i == 0 ? 1 : 99), i);
        }
        due(3, "camp(0, 1) of 17", x.camp(0, 1), FULL);
        due(3, "camp(0, 0) of 17", x.camp(0, 0), NONE);
        due(3, "count(0)", x.count(0), 16);
    }

    private static void roads() {
        NameRolls x = new NameRolls();
        x.camp(0, 1);
        x.camp(0, 1);
        x.camp(1, 1);
        due(4, "road(0, 1, 5)", x.road(0, 1, 5), 5);
        due(4, "road(1, 0, 7)", x.road(1, 0, 7), 5);
        due(4, "road(1, 0, 2)", x.road(1, 0, 2), 2);
        due(4, "road of unlike sides", x.road(0, 2, 2), NONE);
        due(4, "road to itself", x.road(0, 0, 2), NONE);
        due(4, "road(16, 16, 1)", x.road(16, 16, 1), NONE);
        due(4, "road(16, 17, 9)", x.road(16, 17, 9), 9);
        due(4, "no such camp", x.road(0, 3, 2), NONE);
        due(4, "no such point", x.road(0, 18, 2), NONE);
        due(4, "no such point", x.road(-1, 0, 2), NONE);
        due(4, "no DAYS", x.road(0, 16, 0), NONE);
        due(4, "10 DAYS", x.road(0, 16, 10), NONE);
        due(4, "far stands", x.far(0, 16), NOT);
    }

    private static void far() {
        NameRolls x = land();
        due(5, "far(0, 0)", x.far(0, 0), 0);
        due(5, "far(0, 1)", x.far(0, 1), 2);
        due(5, "far(0, 17)", x.far(0, 17), 6);
        due(5, "far(1, 2)", x.far(1, 2), 6);
        due(5, "far(2, 1), not through camp 0", x.far(2, 1), 9);
        due(5, "far(16, 0)", x.far(16, 0), NONE);
        due(5, "far(3, 0)", x.far(3, 0), NONE);
        due(5, "far(0, 3)", x.far(0, 3), NONE);
        due(5, "far(0, 18)", x.far(0, 18), NONE);
        due(5, "far(-1, 0)", x.far(-1, 0), NONE);
        x.camp(0, 1);
        due(5, "no way", x.far(3, 0), NOT);
        due(5, "to itself", x.far(3, 3), 0);
    }

    private static void farThroughOthers() {
        NameRolls x = new NameRolls();
        x.camp(0, 1);
        x.camp(1, 1);
        x.camp(1, 1);
        x.road(0, 16, 1);
        x.road(16, 1, 1);
        x.road(1, 17, 1);
        due(5, "not through the other's camp", x.far(0, 17), NOT);
        due(5, "but to it", x.far(0, 1), 2);
        x.road(1, 2, 1);
        due(5, "nor to one behind it", x.far(0, 2), NOT);
        due(5, "its own side goes through", x.far(2, 16), 2);
        x.road(16, 17, 9);
        due(5, "by the bridge", x.far(0, 17), 10);
        due(5, "of the other side", x.far(1, 0), 2);
    }

    private static void rises() {
        NameRolls x = new NameRolls();
        due(6, "rise(1, 99)", x.rise(1, 99), 0);
        due(6, "rise(1, 0)", x.rise(1, 0), 99);
        due(6, "rise(1, 5)", x.rise(1, 5), 0);
        due(6, "rise(9, 5)", x.rise(9, 5), 0);
        due(6, "rise(0, 5)", x.rise(0, 5), NONE);
        due(6, "rise(10, 5)", x.rise(10, 5), NONE);
        due(6, "rise(1, 100)", x.rise(1, 100), NONE);
        due(6, "rise(1, -1)", x.rise(1, -1), NONE);
        due(6, "rise(1, 6)", x.rise(1, 6), 5);
    }

    private static void persons() {
        NameRolls x = land();
        due(7, "kind 0", x.person(0, 0, 1, -1, 0), NONE);
        due(7, "kind 8", x.person(8, 0, 1, -1, 0), NONE);
        due(7, "camp 3", x.person(1, 3, 1, -1, 0), NONE);
        due(7, "camp 16", x.person(1, 16, 1, -1, 0), NONE);
        due(7, "age -1", x.person(1, 0, -1, -1, 0), NONE);
        due(7, "age 100", x.person(1, 0, 100, -1, 0), NONE);
        due(7, "GRADE of HELD", x.person(1, 0, 1, -1, 1), NONE);
        due(7, "SICK without GRADE", x.person(2, 0, 1, -1, 0), NONE);
        due(7, "GRADE 10", x.person(2, 0, 1, -1, 10), NONE);
        due(7, "HELD goes with nobody", x.person(1, 0, 1, 0, 0), NONE);
        due(7, "CHILD with no such person", x.person(6, 0, 1, 0, 0), NONE);
        due(7, "HELD", x.person(1, 0, 99, -1, 0), 0);
        due(7, "CHILD", x.person(6, 1, 0, 0, 0), 1);
        due(7, "CHILD with nobody", x.person(6, 0, 0, -1, 0), 2);
        due(7, "CHILD of the other holder", x.person(6, 2, 0, 0, 0), NONE);
        due(7, "CHILD with -2", x.person(6, 0, 0, -2, 0), NONE);
        due(7, "SICK 1", x.person(2, 0, 0, -1, 1), 3);
        due(7, "SICK 9", x.person(2, 2, 0, -1, 9), 4);
        due(7, "DOCTOR with somebody", x.person(3, 0, 0, 0, 0), NONE);
        due(7, "HOSTAGE", x.person(7, 2, 0, -1, 0), 5);
        x.become(0, 8);
        due(7, "CHILD with one that is DEAD", x.person(6, 0, 5, 0, 0), 6);
        due(7, "SIDE", x.of(4, 1), 1);
        due(7, "STAYS", x.count(8), 7);
    }

    private static void personsFull() {
        NameRolls x = new NameRolls();
        x.camp(0, 99);
        x.camp(1, 60);
        for (int i = 0; i < 99; i++) {
            due(7, "person", x.person(1, 0, 1, -1, 0), i);
        }
        due(7, "no BED", x.person(1, 0, 1, -1, 0), STATE);
        due(7, "NONE ahead of STATE", x.person(1, 0, 1, -1, 1), NONE);
        for (int i = 0; i < 51; i++) {
            due(7, "person", x.person(3, 1, 1, -1, 0), 99 + i);
        }
        due(7, "FULL", x.person(1, 1, 1, -1, 0), FULL);
        due(7, "STATE ahead of FULL", x.person(1, 0, 1, -1, 0), STATE);
        due(7, "count(1)", x.count(1), 150);
        due(7, "of(150)", x.of(150, 0), NO_VALUE);
    }

    private static void moves() {
        NameRolls x = land();
        x.person(1, 0, 1, -1, 0);
        due(8, "no such person", x.move(1, 0), NONE);
        due(8, "no such person", x.move(-1, 0), NONE);
        due(8, "no such point", x.move(0, 3), NONE);
        due(8, "no such point", x.move(0, 18), NONE);
        due(8, "there", x.move(0, 0), STATE);
        due(8, "the other side's", x.move(0, 2), STATE);
        x.days(5);
        due(8, "to a camp", x.move(0, 1), 7);
        due(8, "on the road", x.move(0, 0), STATE);
        due(8, "state", x.of(0, 2), 1);
        due(8, "goes to", x.of(0, 3), 1);
        due(8, "on the DAY", x.of(0, 10), 7);
        x.days(1);
        due(8, "still on the road", x.of(0, 2), 1);
        x.days(1);
        due(8, "in the camp", x.of(0, 2), 0);
        due(8, "since", x.of(0, 8), 7);
        due(8, "no DAY any more", x.of(0, 10), -1);
        due(8, "to the bridge", x.move(0, 17), 11);
        x.days(4);
        due(8, "at the bridge", x.of(0, 2), 3);
        due(8, "in no camp", x.of(0, 3), -1);
        due(8, "not IN CAMP", x.move(0, 0), STATE);
        x.camp(0, 1);
        x.person(1, 3, 1, -1, 0);
        due(8, "no way", x.move(1, 16), NOT);
        due(8, "no way to a camp", x.move(1, 0), NOT);
    }

    private static void movesAndBeds() {
        NameRolls x = new NameRolls();
        x.camp(0, 9);
        x.camp(0, 1);
        x.road(0, 1, 3);
        x.person(2, 0, 1, -1, 9);
        x.person(1, 0, 1, -1, 0);
        x.move(0, 1);
        due(8, "one on the way holds the BED", x.move(1, 1), STATE);
        due(7, "one on the way holds the BED", x.person(1, 1, 1, -1, 0), STATE);
        x.rise(9, 1);
        x.days(1);
        due(8, "it died on the road", x.of(0, 2), 8);
        due(8, "it has one STAY", x.of(0, 9), 1);
        due(8, "the BED is free", x.move(1, 1), 4);
        x.days(3);
        due(7, "one IN CAMP has the BED", x.person(1, 1, 1, -1, 0), STATE);
        x.become(1, 6);
        due(7, "none has it", x.person(1, 1, 1, -1, 0), 2);
    }

    private static void staysFull() {
        NameRolls x = new NameRolls();
        x.camp(0, 99);
        x.camp(0, 99);
        x.camp(0, 99);
        x.road(0, 1, 1);
        x.road(0, 16, 1);
        x.road(1, 16, 1);
        for (int i = 0; i < 70; i++) {
            x.person(1, 0, 1, -1, 0);
        }
        for (int round = 0; round < 4; round++) {
            for (int i = 0; i < 70; i++) {
                x.move(i, 1 - round % 2);
            }
            x.days(1);
        }
        due(8, "STAYS", x.count(8), 350);
        for (int i = 0; i < 50; i++) {
            due(8, "move", x.move(i, 1), 5);
        }
        due(8, "STAYS that have begun", x.count(8), 350);
        due(8, "FULL of STAYS", x.move(60, 1), FULL);
        due(8, "STATE ahead of FULL", x.move(60, 0), STATE);
        due(8, "not FULL to the harbour", x.move(60, 16), 5);
        due(7, "FULL of STAYS", x.person(1, 2, 1, -1, 0), FULL);
        x.become(0, 8);
        due(7, "one died on the road", x.person(1, 2, 1, -1, 0), 70);
        due(8, "no way ahead of FULL", x.move(70, 0), NOT);
        x.days(1);
        due(8, "STAYS", x.count(8), 400);
        due(8, "FULL", x.move(61, 1), FULL);
        due(12, "the last STAY", x.stay(49, 5, 1), 5);
    }

    private static void heals() {
        NameRolls x = land();
        x.person(2, 0, 1, -1, 5);
        x.person(1, 0, 1, -1, 0);
        due(9, "no such person", x.heal(2, 0), NONE);
        due(9, "GRADE -1", x.heal(0, -1), NONE);
        due(9, "GRADE 10", x.heal(0, 10), NONE);
        due(9, "GRADE 9", x.heal(0, 9), STATE);
        due(9, "not less", x.heal(0, 5), STATE);
        due(9, "nothing to heal", x.heal(1, 0), STATE);
        x.days(2);
        due(9, "heal(0, 3)", x.heal(0, 3), 5);
        due(9, "GRADE", x.of(0, 6), 3);
        x.rise(3, 2);
        x.days(1);
        due(9, "it began when it was healed", x.of(0, 6), 3);
        x.days(1);
        due(9, "it rises", x.of(0, 6), 4);
        due(9, "heal(0, 0)", x.heal(0, 0), 4);
        due(9, "it is no KIND else", x.of(0, 0), 2);
        x.days(60);
        due(9, "no GRADE rises", x.of(0, 6), 0);
        x.person(2, 0, 1, -1, 5);
        x.move(2, 16);
        due(9, "on the road", x.heal(2, 1), STATE);
    }

    private static void becomes() {
        NameRolls x = land();
        for (int i = 0; i < 6; i++) {
            x.person(1, 0, 1, -1, 0);
        }
        due(10, "no such person", x.become(6, 8), NONE);
        due(10, "state 3", x.become(0, 3), NONE);
        due(10, "state 9", x.become(0, 9), NONE);
        due(10, "ABOARD from a camp", x.become(0, 4), STATE);
        due(10, "HANDED OVER from a camp", x.become(0, 5), STATE);
        x.move(0, 16);
        x.move(1, 17);
        due(10, "LET GO from the road", x.become(0, 6), STATE);
        due(10, "RUN OFF from the road", x.become(0, 7), STATE);
        due(10, "HANDED OVER from the road", x.become(0, 5), STATE);
        x.days(6);
        due(10, "HANDED OVER from the harbour", x.become(0, 5), STATE);
        due(10, "ABOARD from the bridge", x.become(1, 4), STATE);
        due(10, "ABOARD", x.become(0, 4), 1);
        due(10, "again", x.become(0, 4), STATE);
        due(10, "HANDED OVER from aboard", x.become(0, 5), 1);
        due(10, "HANDED OVER from the bridge", x.become(1, 5), 1);
        due(10, "DEAD from HANDED OVER", x.become(1, 8), STATE);
        due(10, "LET GO", x.become(2, 6), 1);
        due(10, "RUN OFF", x.become(3, 7), 1);
        due(10, "DEAD from LET GO", x.become(2, 8), STATE);
        due(10, "DEAD from a camp", x.become(4, 8), 1);
        due(10, "DEAD again", x.become(4, 8), STATE);
        x.move(5, 16);
        due(10, "DEAD from the road", x.become(5, 8), 1);
        due(10, "goes nowhere", x.of(5, 3), -1);
        due(10, "goes nowhere", x.of(5, 10), -1);
        x.person(1, 0, 1, -1, 0);
        x.person(1, 0, 1, -1, 0);
        x.move(6, 16);
        x.move(7, 17);
        x.days(6);
        due(10, "ABOARD", x.become(6, 4), 1);
        due(10, "DEAD from aboard", x.become(6, 8), 1);
        due(10, "DEAD from the bridge", x.become(7, 8), 1);
        x.days(9);
        due(10, "stays DEAD", x.of(5, 2), 8);
    }

    private static void ofPerson() {
        NameRolls x = land();
        x.days(2);
        x.person(1, 2, 50, -1, 0);
        x.person(6, 2, 7, 0, 0);
        x.person(2, 2, 60, -1, 4);
        int[] want = {6, 1, 0, 2, 7, 0, 0, 2, 2, 1, -1};
        for (int what = 0; what < want.length; what++) {
            due(11, "of(1, " + what + ")", x.of(1, what), want[what]);
        }
        x.days(1);
        x.move(2, 17);
        int[] road = {2, 1, 1, 17, 60, -1, 4, 2, 3, 1, 8};
        for (int what = 0; what < road.length; what++) {
            due(11, "of(2, " + what + ")", x.of(2, what), road[what]);
        }
        due(11, "of(1, 11)", x.of(1, 11), NO_VALUE);
        due(11, "of(1, -1)", x.of(1, -1), NO_VALUE);
        due(11, "of(3, 0)", x.of(3, 0), NO_VALUE);
        due(11, "of(-1, 0)", x.of(-1, 0), NO_VALUE);
        x.become(2, 8);
        due(11, "DEAD keeps its GRADE", x.of(2, 6), 4);
    }

    private static void stays() {
        NameRolls x = land();
        x.days(1);
        x.person(1, 0, 50, -1, 0);
        x.person(1, 1, 50, -1, 0);
        x.days(1);
        x.move(0, 1);
        x.days(5);
        due(12, "STAYS", x.of(0, 9), 2);
        int[] want = {0, 1, 2, 1, 4, -1};
        for (int i = 0; i < 6; i++) {
            due(12, "stay(0, " + i / 3 + ", " + i % 3 + ")", x.stay(0, i / 3, i % 3), want[i]);
        }
        x.become(0, 7);
        due(12, "it left", x.stay(0, 1, 2), 7);
        due(12, "the first one stands", x.stay(0, 0, 2), 2);
        due(12, "another's goes on", x.stay(1, 0, 2), -1);
        due(12, "no such STAY", x.stay(0, 2, 0), NO_VALUE);
        due(12, "no such STAY", x.stay(0, -1, 0), NO_VALUE);
        due(12, "no such what", x.stay(0, 0, 3), NO_VALUE);
        due(12, "no such what", x.stay(0, 0, -1), NO_VALUE);
        due(12, "no such person", x.stay(2, 0, 0), NO_VALUE);
        due(12, "no such person", x.stay(-1, 0, 0), NO_VALUE);
    }

    private static void facts() {
        NameRolls x = land();
        x.person(2, 0, 50, -1, 6);
        due(13, "no such person", x.fact(1, 1, 1), NONE);
        due(13, "sort 3", x.fact(0, 3, 1), NONE);
        due(13, "sort -1", x.fact(0, -1, 1), NONE);
        due(13, "v 2", x.fact(0, 0, 2), NONE);
        due(13, "v -1", x.fact(0, 1, -1), NONE);
        due(13, "SEEN", x.fact(0, 0, 1), 1);
        x.move(0, 16);
        due(13, "SEEN on the road", x.fact(0, 0, 1), STATE);
        due(13, "NONE ahead of STATE", x.fact(0, 0, 7), NONE);
        due(13, "ASKED on the road", x.fact(0, 1, 1), 2);
        for (int i = 3; i <= 300; i++) {
            due(13, "fact", x.fact(0, 2, i & 1), i);
        }
        due(13, "FULL", x.fact(0, 2, 1), FULL);
        due(13, "STATE ahead of FULL", x.fact(0, 0, 1), STATE);
        due(13, "count(3)", x.count(3), 300);
        due(13, "the last one counts", x.known(1, 0, 2, 0), 0);
    }

    private static void letters() {
        NameRolls x = new NameRolls();
        for (int i = 1; i <= 60; i++) {
            due(14, "letter", x.letter(), i);
        }
        due(14, "FULL", x.letter(), FULL);
        due(14, "count(4)", x.count(4), 60);
    }

    private static void known() {
        NameRolls x = land();
        x.person(2, 0, 50, -1, 6);
        x.days(10);
        x.fact(0, 0, 1);
        x.fact(0, 1, 1);
        x.fact(0, 2, 1);
        due(15, "SEEN to the holder", x.known(0, 0, 0, 10), 6);
        due(15, "SEEN a DAY ahead", x.known(0, 0, 0, 9), 0);
        due(15, "ASKED to the holder", x.known(0, 0, 1, 10), 1);
        due(15, "NAMED to the holder", x.known(0, 0, 2, 600), 0);
        due(15, "NAMED to the other", x.known(1, 0, 2, 10), 1);
        due(15, "SEEN to the other", x.known(1, 0, 0, 600), 0);
        x.days(2);
        x.letter();
        due(15, "by the letter", x.known(1, 0, 0, 19), 6);
        due(15, "ahead of it", x.known(1, 0, 0, 18), 0);
        due(15, "NAMED by the letter", x.known(0, 0, 2, 19), 1);
        x.heal(0, 2);
        x.fact(0, 0, 0);
        due(15, "a letter ahead on its DAY counts", x.known(1, 0, 0, 19), 2);
        due(15, "and comes 7 DAYS later", x.known(1, 0, 0, 18), 0);
        due(15, "what is told last", x.known(0, 0, 0, 12), 2);
        due(15, "what was told ahead", x.known(0, 0, 0, 11), 6);
        x.days(1);
        x.fact(0, 1, 0);
        x.letter();
        due(15, "ASKED no more, to the holder", x.known(0, 0, 1, 13), 0);
        due(15, "to the other", x.known(1, 0, 1, 19), 1);
        due(15, "to the other, later", x.known(1, 0, 1, 20), 0);
        due(15, "no such side", x.known(2, 0, 0, 0), NONE);
        due(15, "no such person", x.known(0, 1, 0, 0), NONE);
        due(15, "no such sort", x.known(0, 0, 3, 0), NONE);
        due(15, "DAY 601", x.known(0, 0, 0, 601), NONE);
        due(15, "DAY -1", x.known(0, 0, 0, -1), NONE);
    }

    private static void promises() {
        NameRolls x = land();
        x.days(4);
        due(16, "side 2", x.promise(2, 1, 9), NONE);
        due(16, "n 0", x.promise(0, 0, 9), NONE);
        due(16, "n 100", x.promise(0, 100, 9), NONE);
        due(16, "DAY ahead", x.promise(0, 1, 3), NONE);
        due(16, "DAY 601", x.promise(0, 1, 601), NONE);
        due(16, "today", x.promise(0, 1, 4), 0);
        due(16, "DAY 600", x.promise(1, 99, 600), 1);
        due(17, "SIDE", x.ofPromise(1, 0), 1);
        due(17, "n", x.ofPromise(1, 1), 99);
        due(17, "last DAY", x.ofPromise(1, 2), 600);
        due(17, "DONE", x.ofPromise(1, 3), 0);
        due(17, "BROKEN", x.ofPromise(1, 4), 0);
        due(17, "what 5", x.ofPromise(1, 5), NONE);
        due(17, "what -1", x.ofPromise(1, -1), NONE);
        due(17, "no such promise", x.ofPromise(2, 0), NONE);
        due(17, "no such promise", x.ofPromise(-1, 0), NONE);
        for (int i = 2; i < 40; i++) {
            due(16, "promise", x.promise(0, 1, 5), i);
        }
        due(16, "FULL", x.promise(0, 1, 5), FULL);
        due(16, "NONE ahead of FULL", x.promise(0, 0, 5), NONE);
        due(16, "count(5)", x.count(5), 40);
    }

    private static void broken() {
        NameRolls x = land();
        for (int i = 0; i < 4; i++) {
            x.person(1, 0, 1, -1, 0);
            x.move(i, 16);
        }
        x.person(1, 2, 1, -1, 0);
        x.move(4, 16);
        x.days(5);
        for (int i = 0; i < 5; i++) {
            x.become(i, 4);
        }
        x.become(0, 5);
        x.become(4, 5);
        due(16, "promise", x.promise(0, 2, 6), 0);
        due(17, "DONE on its DAY ahead of it", x.ofPromise(0, 3), 1);
        x.days(1);
        due(16, "promise", x.promise(0, 1, 6), 1);
        x.become(1, 5);
        due(17, "DONE on the last DAY", x.ofPromise(0, 3), 2);
        due(17, "DONE for both", x.ofPromise(1, 3), 1);
        x.days(1);
        x.become(2, 5);
        due(17, "DONE not behind it", x.ofPromise(0, 3), 2);
        due(17, "not BROKEN", x.ofPromise(0, 4), 0);
        x.promise(0, 3, 7);
        x.promise(1, 1, 8);
        due(18, "not yet BROKEN", x.broken(0, 7), 0);
        x.days(1);
        due(18, "BROKEN", x.broken(0, 8), 1);
        due(17, "BROKEN", x.ofPromise(2, 4), 1);
        due(18, "not on DAY 7", x.broken(0, 7), 0);
        due(18, "the other", x.broken(1, 8), 0);
        due(18, "behind TODAY", x.broken(0, 9), NONE);
        due(18, "DAY 0", x.broken(0, 0), 0);
        due(18, "DAY -1", x.broken(0, -1), NONE);
        due(18, "side 2", x.broken(2, 0), NONE);
        x.days(1);
        due(18, "the other", x.broken(1, 9), 1);
    }

    private static void feeds() {
        NameRolls x = new NameRolls();
        due(19, "feed(0, 0)", x.feed(0, 0), NONE);
        due(19, "feed(5, 0)", x.feed(5, 0), NONE);
        due(19, "the lowest byte first", x.feed(2, '1' + 256 * 'k'), 2);
        due(20, "so the fault is at k", x.text(0, 0), -101);
        for (int i = 1; i <= 39; i++) {
            due(19, "feed(4)", x.feed(4, 0x2B6B2B6B), 4 * i);
        }
        due(19, "feed(3)", x.feed(3, 0x6B2B6B), 159);
        due(19, "feed(2) of 161", x.feed(2, 0), FULL);
        due(19, "count(9)", x.count(9), 159);
        due(19, "feed(1)", x.feed(1, '+'), 160);
        due(19, "feed(1) of 161", x.feed(1, '+'), FULL);
        due(20, "ends too early", x.text(0, 0), -260);
        due(19, "empty then", x.count(9), 0);
    }

    private static void texts() {
        NameRolls x = new NameRolls();
        due(20, "an empty tape", x.text(0, 0), -100);
        feed(x, "k");
        due(20, "PARTY 4", x.text(40, 0), NONE);
        due(20, "USE 3", x.text(3, 0), NONE);
        due(20, "what -1", x.text(-1, 0), NONE);
        due(20, "what -9", x.text(-9, 0), NONE);
        due(20, "from -1", x.text(0, -1), NONE);
        due(20, "from 601", x.text(0, 601), NONE);
        due(20, "the tape stays", x.count(9), 1);
        due(20, "text", x.text(32, 600), 0);
        due(20, "the tape is empty", x.count(9), 0);
        for (int i = 1; i < 20; i++) {
            due(20, "text", text(x, i % 3 + 10 * (i % 4), 0, "k"), i);
        }
        feed(x, "??");
        due(20, "FULL ahead of the FAULT", x.text(0, 0), FULL);
        due(20, "NONE ahead of FULL", x.text(4, 0), NONE);
        due(20, "the tape stays", x.count(9), 2);
        due(20, "count(6)", x.count(6), 20);
    }

    private static void fault(String s, int at) {
        NameRolls x = new NameRolls();
        due(20, "text of " + s, text(x, 0, 0, s), at < 0 ? 0 : -100 - at);
        due(20, "the tape is empty", x.count(9), 0);
    }

    private static void faults() {
        fault("kgyandbct", 1);
        fault("k+g-y*a/n<d|b&c;t?t", -1);
        fault("1234", -1);
        fault("12345", 4);
        fault("0000;9999", -1);
        fault("k k", 1);
        fault("", 0);
        fault(";", 0);
        fault("k;", 2);
        fault("k;;", 2);
        fault("k?", 2);
        fault("k?g?", 3);
        fault("k?g;k?g", -1);
        fault("?", 0);
        fault("k<g<a", 3);
        fault("k<g=a", 3);
        fault("k<g&a>1|k=2", -1);
        fault("(k<g)<a", -1);
        fault("(k<g<a)", 4);
        fault("(k", 2);
        fault("(k?g)", 2);
        fault("(k;g)", 2);
        fault("k)", 1);
        fault("()", 1);
        fault("(k)(g)", 3);
        fault("k!g", 1);
        fault("!!k", -1);
        fault("-k", 0);
        fault("k--k", 2);
        fault("((((((((k))))))))", -1);
        fault("(((((((((k)))))))))", 8);
        fault("!!!!!!!!k", -1);
        fault("!!!!!!!!!k", 8);
        fault("k?((((((((k))))))))", -1);
        fault("k?(((((((((k", 10);
        fault("!(!(!(!(k))))", -1);
        fault("!(!(!(!(!k))))", 8);
        fault("!(!(!(!k+!k)))", -1);
        fault("!k+!k+!k+!k+!k+!k+!k+!k+!k+!k", -1);
        fault("(12345)", 5);
        fault("K", 0);
        fault("k+\u00FF", 2);
        fault("k\u0000", 1);
        fault("1k", 1);
        fault("k1", 1);
    }

    private static void inForce() {
        NameRolls x = new NameRolls();
        x.days(5);
        text(x, 10, 9, "1");
        x.days(1);
        text(x, 10, 7, "2");
        text(x, 11, 0, "3");
        due(21, "made later", x.inForce(10, 9, 4), NOT);
        due(21, "the first", x.inForce(10, 9, 5), 0);
        due(21, "the last", x.inForce(10, 9, 6), 1);
        due(21, "the last on 7", x.inForce(10, 7, 6), 1);
        due(21, "not yet", x.inForce(10, 6, 6), NOT);
        due(21, "not by 5", x.inForce(10, 8, 5), NOT);
        due(21, "another USE", x.inForce(11, 0, 600), 2);
        due(21, "another PARTY", x.inForce(21, 600, 600), NOT);
        due(21, "what 13", x.inForce(13, 0, 0), NONE);
        due(21, "what 40", x.inForce(40, 0, 0), NONE);
        due(21, "what -10", x.inForce(-10, 0, 0), NONE);
        due(21, "DAY 601", x.inForce(10, 601, 0), NONE);
        due(21, "DAY 601", x.inForce(10, 0, 601), NONE);
        due(21, "DAY -1", x.inForce(10, -1, 0), NONE);
        due(21, "DAY -1", x.inForce(10, 0, -1), NONE);
    }

    private static void gives(NameRolls x, String s, int want, int line) {
        int t = text(x, 22, 0, s);
        due(22, s, x.says(t, 0, 0, 8, 8), want);
        due(22, "the LINE of " + s, x.says(t, 0, 1, 8, 8), line);
    }

    private static void says() {
        NameRolls x = land();
        x.days(2);
        x.person(2, 0, 41, -1, 6);
        x.person(3, 0, 50, -1, 0);
        x.person(3, 1, 50, -1, 0);
        x.fact(0, 0, 1);
        x.promise(1, 3, 2);
        x.days(2);
        gives(x, "k*100+g*10+a/4", 270, 0);
        gives(x, "d;k", 6, 0);
        gives(x, "0?7;0?8;k=2?9;5", 9, 2);
        gives(x, "0?7;0?8", 0, -1);
        gives(x, "1?0;2", 0, 0);
        gives(x, "c*10+t", 21, 0);
        gives(x, "b", 1, 0);
        gives(x, "9999*9999*9999", 9999 * 9999 * 9999, 0);
        gives(x, "0-7/2", -3, 0);
        gives(x, "(0-7)/2", -3, 0);
        gives(x, "7/0+1", 1, 0);
        gives(x, "8/4/2*3-1-1", 1, 0);
        gives(x, "!5+!0*4", 4, 0);
        truths();
        moreSays(x);
    }

    private static void truths() {
        NameRolls x = land();
        x.person(1, 0, 1, -1, 0);
        gives(x, "2<3|0&0", 1, 0);
        gives(x, "5&3", 1, 0);
        gives(x, "1|0=0&0", 1, 0);
        gives(x, "3>2", 1, 0);
        gives(x, "(3<3)*2+(3>3)", 0, 0);
        gives(x, "(0|5)*8+(5|0)*4+(0&5)*2+(0|0)", 12, 0);
        gives(x, "(2<3)*100+(2=2)*10+!0", 111, 0);
    }

    private static void moreSays(NameRolls x) {
        int t = text(x, 0, 0, "g+10*y+100*n");
        x.fact(0, 1, 1);
        x.fact(0, 2, 1);
        due(22, "the holder knows", x.says(t, 0, 0, 0, 4), 16);
        due(22, "the other knows", x.says(t, 0, 10, 0, 4), 100);
        due(22, "ahead", x.says(t, 0, 0, 0, 1), 0);
        int d = text(x, 0, 0, "d*100+b");
        due(22, "d ahead of its coming", x.says(d, 0, 0, 1, 0), 0);
        due(22, "b on DAY 2", x.says(d, 0, 0, 2, 0), 0);
        due(22, "b on DAY 3", x.says(d, 0, 0, 3, 0), 101);
        due(22, "b behind TODAY", x.says(d, 0, 0, 600, 0), 59801);
        due(22, "b for the other", x.says(d, 0, 10, 600, 0), 59800);
        x.promise(0, 1, 4);
        x.promise(0, 2, 4);
        x.days(1);
        due(22, "b for SIDE 1", x.says(d, 0, 10, 5, 0), 302);
        due(22, "b for SIDE 0", x.says(d, 0, 0, 5, 0), 301);
        int l = text(x, 0, 0, "b=2?7;8");
        due(22, "LINE for SIDE 0", x.says(l, 0, 1, 5, 0), 1);
        due(22, "LINE for SIDE 1", x.says(l, 0, 11, 5, 0), 0);
        due(22, "no such text", x.says(x.count(6), 0, 0, 0, 0), NO_VALUE);
        due(22, "no such text", x.says(-1, 0, 0, 0, 0), NO_VALUE);
        due(22, "no such person", x.says(d, 3, 0, 0, 0), NO_VALUE);
        due(22, "what 2", x.says(d, 0, 2, 0, 0), NO_VALUE);
        due(22, "what 20", x.says(d, 0, 20, 0, 0), NO_VALUE);
        due(22, "what -10", x.says(d, 0, -10, 0, 0), NO_VALUE);
        due(22, "DAY 601", x.says(d, 0, 0, 601, 0), NO_VALUE);
        due(22, "DAY -1", x.says(d, 0, 0, 0, -1), NO_VALUE);
        x.move(0, 16);
        int c = text(x, 0, 0, "c+t");
        due(22, "c on the road", x.says(c, 0, 0, 4, 4), 0);
        due(22, "c of another", x.says(c, 1, 0, 4, 4), 2);
    }

    private static void owed() {
        NameRolls x = land();
        x.person(2, 0, 41, -1, 6);
        x.person(2, 2, 41, -1, 6);
        x.fact(0, 0, 1);
        due(23, "no text", x.owed(0, 0, 0), 0);
        text(x, 10, 0, "a>50?1;a>40?a");
        due(23, "PARTY 1's", x.owed(0, 0, 0), 201);
        text(x, 0, 3, "0?1;g>5");
        due(23, "PARTY 0's not yet", x.owed(0, 2, 0), 201);
        due(23, "PARTY 0's", x.owed(0, 3, 0), 101);
        due(23, "for its holder", x.owed(1, 3, 0), 201);
        text(x, 10, 5, "0");
        text(x, 20, 0, "1");
        due(23, "neither", x.owed(1, 5, 0), 0);
        due(23, "still", x.owed(0, 5, 0), 101);
        due(23, "no such person", x.owed(2, 0, 0), NONE);
        due(23, "DAY 601", x.owed(0, 601, 0), NONE);
        due(23, "DAY -1", x.owed(0, 0, -1), NONE);
        x.days(1);
        text(x, 0, 0, "0-1");
        due(23, "not as known ahead", x.owed(1, 5, 0), 0);
        due(23, "less than 0 is not 0", x.owed(1, 5, 1), 100);
    }

    private static void mayStay() {
        NameRolls x = land();
        x.person(5, 0, 41, -1, 0);
        x.person(5, 2, 30, -1, 0);
        x.days(1);
        due(24, "no text", x.mayStay(0, 1, 1), 0);
        text(x, 1, 0, "a>35");
        due(24, "not ASKED", x.mayStay(0, 1, 1), 0);
        x.fact(0, 1, 1);
        x.fact(1, 1, 1);
        due(24, "PARTY 0's", x.mayStay(0, 1, 1), 1);
        due(24, "not ASKED ahead", x.mayStay(0, 1, 0), 0);
        due(24, "it gives 0", x.mayStay(1, 1, 1), 0);
        text(x, 11, 2, "a<35");
        due(24, "PARTY 1's not yet", x.mayStay(0, 1, 1), 1);
        due(24, "PARTY 1's", x.mayStay(0, 2, 1), 0);
        due(24, "PARTY 1's", x.mayStay(1, 2, 1), 1);
        text(x, 21, 0, "1");
        due(24, "orders do not count", x.mayStay(0, 2, 1), 0);
        x.fact(1, 1, 0);
        due(24, "ASKED no more", x.mayStay(1, 2, 1), 0);
        NameRolls y = land();
        y.person(5, 0, 41, -1, 0);
        y.fact(0, 1, 1);
        due(20, "text", text(y, 11, 0, "0"), 0);
        text(y, 1, 0, "1");
        due(24, "PARTY 1's, though it gives 0", y.mayStay(0, 0, 0), 0);
        due(24, "no such person", x.mayStay(2, 0, 0), NONE);
        due(24, "DAY 601", x.mayStay(0, 601, 0), NONE);
        due(24, "DAY -1", x.mayStay(0, 0, -1), NONE);
    }

    private static void worth() {
        NameRolls x = land();
        x.person(1, 0, 41, -1, 0);
        due(25, "no text", x.worth(0, 0, 0, 0), 1);
        text(x, 22, 2, "a-50");
        text(x, 32, 0, "a*a+n");
        due(25, "not yet", x.worth(0, 0, 1, 0), 1);
        due(25, "0 at least", x.worth(0, 0, 2, 0), 0);
        due(25, "999 at most", x.worth(0, 1, 2, 0), 999);
        text(x, 32, 0, "a+n");
        x.fact(0, 2, 1);
        due(25, "for SIDE 1", x.worth(0, 1, 2, 0), 42);
        text(x, 22, 0, "a+n");
        due(25, "for SIDE 0", x.worth(0, 0, 2, 0), 41);
        due(25, "no such person", x.worth(1, 0, 0, 0), NONE);
        due(25, "side 2", x.worth(0, 2, 0, 0), NONE);
        due(25, "side -1", x.worth(0, -1, 0, 0), NONE);
        due(25, "DAY 601", x.worth(0, 0, 601, 0), NONE);
        due(25, "DAY 601", x.worth(0, 0, 0, 601), NONE);
    }

    /** A word in base 28; ? stands for a letter that cannot be read. */
    private static int word(String s) {
        int v = 0;
        for (int i = 0; i < s.length(); i++) {
            v = v * 28 + (s.charAt(i) == '?' ? 27 : s.charAt(i) - 'a' + 1);
        }
        return v;
    }

    private static void rows() {
        NameRolls x = new NameRolls();
        due(26, "side 2", x.row(2, 1, 0, 0), NONE);
        due(26, "word 0", x.row(0, 0, 0, 0), NONE);
        due(26, "word -1", x.row(0, -1, 0, 0), NONE);
        due(26, "word least", x.row(0, LEAST, 0, 0), NONE);
        due(26, "word most", x.row(0, MOST, 0, 0), NONE);
        due(26, "six letters", x.row(0, word("aaaaaa"), 0, 0), NONE);
        due(26, "a gap", x.row(0, 28 * 28 + 1, 0, 0), NONE);
        due(26, "a gap behind", x.row(0, 28, 0, 0), NONE);
        due(26, "age -2", x.row(0, 1, -2, 0), NONE);
        due(26, "age 100", x.row(0, 1, 100, 0), NONE);
        due(26, "unit -2", x.row(0, 1, 0, -2), NONE);
        due(26, "unit 100", x.row(0, 1, 0, 100), NONE);
        due(26, "five letters", x.row(0, word("?????"), 99, 99), 0);
        due(26, "one letter", x.row(1, 1, -1, -1), 1);
        for (int i = 2; i < 100; i++) {
            due(26, "row", x.row(i & 1, i, 0, 0), i % 28 == 0 ? NONE : i - i / 28);
        }
        for (int i = 97; i < 100; i++) {
            due(26, "row", x.row(0, 1, 0, 0), i);
        }
        due(26, "FULL", x.row(0, 1, 0, 0), FULL);
        due(26, "NONE ahead of FULL", x.row(0, 0, 0, 0), NONE);
        due(26, "count(7)", x.count(7), 100);
    }

    private static void canBe() {
        NameRolls x = new NameRolls();
        due(27, "at first", x.canBe(1, 1, 1), 1);
        due(27, "at first", x.canBe(1, 2, 1), 0);
        due(27, "told", x.canBe(1, 2, 0), 1);
        due(27, "not the other way", x.canBe(2, 1, 0), 0);
        due(27, "26", x.canBe(26, 26, 0), 1);
        due(27, "26", x.canBe(26, 26, 0), 0);
        due(27, "x 0", x.canBe(0, 1, 1), NONE);
        due(27, "x 27", x.canBe(27, 1, 1), NONE);
        due(27, "y 0", x.canBe(1, 0, 1), NONE);
        due(27, "y 27", x.canBe(1, 27, 1), NONE);
        due(27, "is 2", x.canBe(1, 1, 2), NONE);
        due(27, "is -1", x.canBe(1, 1, -1), NONE);
    }

    private static void same() {
        NameRolls x = new NameRolls();
        x.row(0, word("abc"), 30, 5);
        x.row(1, word("abc"), 31, 5);
        x.row(1, word("abd"), 30, 5);
        x.row(1, word("ab"), 30, 5);
        x.row(1, word("a?c"), 32, 6);
        x.row(1, word("?bc"), 29, 5);
        x.row(1, word("abc"), -1, 5);
        x.row(1, word("abc"), 30, -1);
        x.row(1, word("abc"), 30, 6);
        int[] is = {2, 0, 0, 0, 1, 1, 1, 0};
        int[] why = {0, 2, 1, 3, 0, 0, 0, 4};
        for (int b = 1; b <= 8; b++) {
            due(28, "same(0, " + b + ", 0)", x.same(0, b, 0), is[b - 1]);
            due(28, "same(" + b + ", 0, 0)", x.same(b, 0, 0), is[b - 1]);
            due(28, "same(0, " + b + ", 1)", x.same(0, b, 1), why[b - 1]);
            due(28, "same(" + b + ", 0, 1)", x.same(b, 0, 1), why[b - 1]);
        }
        sameByZero();
        x.canBe(3, 4, 1);
        due(28, "c can be d", x.same(0, 2, 0), 2);
        x.row(0, word("abd"), 30, 5);
        due(28, "d cannot be c", x.same(9, 1, 1), 2);
        due(28, "of one side", x.same(1, 2, 0), NONE);
        due(28, "itself", x.same(0, 0, 0), NONE);
        due(28, "no such row", x.same(0, 10, 0), NONE);
        due(28, "no such row", x.same(-1, 0, 0), NONE);
        due(28, "what 2", x.same(0, 1, 2), NONE);
        due(28, "what -1", x.same(0, 1, -1), NONE);
    }

    private static void sameByZero() {
        NameRolls x = new NameRolls();
        x.row(0, word("a"), 0, 0);
        x.row(1, word("a"), 0, 0);
        x.row(1, word("a"), 2, 0);
        x.row(1, word("a"), 1, 1);
        x.row(0, word("a"), 2, 1);
        due(28, "AGE 0 and UNIT 0 are told", x.same(0, 1, 0), 2);
        due(28, "AGE 0 and 2", x.same(0, 2, 1), 3);
        due(28, "AGE 2 and 0", x.same(4, 1, 1), 3);
        due(28, "UNIT 0 and 1", x.same(0, 3, 1), 4);
        due(28, "UNIT 1 and 0", x.same(4, 2, 1), 4);
    }

    private static void joined() {
        NameRolls x = new NameRolls();
        due(29, "no such row", x.joined(0), NONE);
        x.row(0, word("ab"), 30, 5);
        x.row(1, word("ab"), 31, 5);
        x.row(0, word("ab"), 32, 5);
        x.row(1, word("ab"), 33, 5);
        x.row(0, word("a?"), 31, 5);
        x.row(0, word("ab"), 50, 5);
        due(29, "a chain", x.joined(0), 4);
        due(29, "a chain", x.joined(3), 4);
        due(29, "PERHAPS does not join", x.joined(4), 1);
        due(29, "alone", x.joined(5), 1);
        due(29, "no such row", x.joined(6), NONE);
        due(29, "no such row", x.joined(-1), NONE);
        x.canBe(2, 2, 0);
        due(29, "no more", x.joined(0), 1);
    }

    private static void clashes() {
        NameRolls x = new NameRolls();
        due(30, "none", x.clash(0), 0);
        due(30, "none", x.clash(1), NOT);
        due(30, "none", x.clash(2), NOT);
        due(30, "what 3", x.clash(3), NONE);
        due(30, "what -1", x.clash(-1), NONE);
        x.row(1, word("z"), 0, 0);
        x.row(0, word("ab"), 30, 5);
        x.row(1, word("ab"), 31, 5);
        x.row(0, word("ab"), 32, 5);
        due(30, "ages that differ by 2", x.clash(0), 0);
        x.row(1, word("ab"), 33, 5);
        due(30, "of unlike sides, NONE by AGES", x.clash(0), 1);
        due(30, "the lesser", x.clash(1), 1);
        due(30, "the greater", x.clash(2), 4);
        x.row(0, word("ab"), 34, 5);
        due(30, "more", x.clash(0), 3);
        due(30, "the greater of the first", x.clash(2), 4);
        clashByLetters();
        clashOfOneSide();
    }

    private static void clashOfOneSide() {
        NameRolls x = new NameRolls();
        x.row(0, word("a"), 30, 5);
        x.row(1, word("a"), 31, 5);
        x.row(0, word("a"), 32, 5);
        x.row(1, word("a"), 32, 5);
        due(30, "of one side, AGES that differ by 2", x.clash(0), 1);
        x.row(0, word("a"), 33, 5);
        due(30, "by 3", x.clash(0), 3);
        due(30, "the lesser", x.clash(1), 0);
        due(30, "the greater", x.clash(2), 3);
    }

    private static void clashByLetters() {
        NameRolls x = new NameRolls();
        x.canBe(1, 2, 1);
        x.canBe(3, 2, 1);
        x.row(1, word("a"), 30, 5);
        x.row(0, word("c"), 30, 5);
        x.row(1, word("b"), 30, 5);
        x.row(0, word("a"), 30, 5);
        due(30, "joined", x.joined(0), 4);
        due(30, "of unlike sides, NONE by letters", x.clash(0), 1);
        due(30, "the lesser", x.clash(1), 0);
        due(30, "the greater", x.clash(2), 1);
    }

    private static void items(NameRolls x, int table, int... values) {
        due(53, "table", x.table(table, 1, values.length), 1);
        for (int i = 0; i < values.length; i++) {
            due(54, "item", x.item(table, i, values[i]), 1);
        }
    }

    private static void lists() {
        NameRolls x = new NameRolls();
        due(31, "side 2", x.list(2, 0, 0, 1), NONE);
        due(31, "table 4", x.list(0, 4, 0, 1), NONE);
        due(31, "table -1", x.list(0, -1, 0, 1), NONE);
        due(31, "n 0", x.list(0, 0, 0, 0), NONE);
        due(31, "n 21", x.list(0, 0, 0, 21), NONE);
        due(31, "nothing", x.list(0, 0, 0, 1), CAST);
        x.table(1, 0, 9);
        due(31, "bytes", x.list(0, 1, 0, 1), CAST);
        items(x, 0, 7, 8, 9, -1, -1, 27, 0, 99, 1, 100, 1, 1, 5);
        due(31, "place -1", x.list(0, 0, -1, 1), 0);
        due(31, "place least", x.list(0, 0, LEAST, 1), 0);
        due(31, "place most", x.list(0, 0, MOST, 20), 0);
        due(31, "as many as told", x.list(0, 0, 0, 2), 2);
        due(31, "till one is not so", x.list(1, 0, 0, 20), 3);
        due(31, "from a place", x.list(0, 0, 3, 20), 2);
        due(31, "not whole", x.list(0, 0, 10, 20), 1);
        due(31, "not whole", x.list(0, 0, 11, 20), 0);
        due(31, "rows", x.count(7), 8);
        due(31, "as the row is", x.same(0, 2, 0), 2);
        due(31, "not told, not read", x.same(0, 3, 0), 1);
        listsByBlank(x);
    }

    private static void listsByBlank(NameRolls x) {
        x.blank(7);
        due(31, "the BLANK is asked first", x.list(0, 0, 0, 1), 1);
        due(31, "so it is not told", x.same(2, 8, 0), 1);
        due(31, "-1 is no AGE then", x.list(0, 0, 3, 1), 0);
        x.blank(100);
        due(31, "100 is not told then", x.list(0, 0, 9, 1), 1);
        items(x, 2, 1, 1, 0, 1, 1, 28, 1, -1, 1);
        due(31, "letter 0", x.list(0, 2, 0, 1), 0);
        due(31, "letter 28", x.list(0, 2, 3, 1), 0);
        due(31, "UNIT -1", x.list(0, 2, 6, 1), 0);
        x.blank(-1);
        for (int i = 10; i < 98; i++) {
            x.row(0, 1, 1, 1);
        }
        due(31, "as many as there is room for", x.list(0, 0, 0, 3), 2);
        due(31, "no room", x.list(0, 0, 0, 3), 0);
    }

    private static void offers() {
        NameRolls x = land();
        for (int i = 0; i < 9; i++) {
            x.person(1, 0, 20, -1, 0);
        }
        x.person(1, 2, 20, -1, 0);
        due(32, "no such person", x.offer(10), NONE);
        due(32, "no such person", x.offer(-1), NONE);
        x.become(8, 6);
        due(32, "not IN CAMP", x.offer(8), STATE);
        due(32, "SIDE 1", x.offer(9), 1);
        for (int i = 0; i < 7; i++) {
            due(32, "offer", x.offer(i), i + 1);
        }
        due(32, "twice", x.offer(3), NONE);
        due(32, "FULL", x.offer(7), FULL);
        due(32, "STATE ahead of FULL", x.offer(8), STATE);
        x.become(3, 6);
        due(32, "NONE ahead of STATE", x.offer(3), NONE);
    }

    private static void judge() {
        NameRolls x = land();
        due(34, "none go", x.judge(0, 0), 0);
        due(34, "no such bit", x.judge(1, 0), NONE);
        x.person(1, 0, 20, -1, 0);
        x.person(5, 1, 20, -1, 0);
        x.person(6, 0, 5, 0, 0);
        x.person(1, 2, 30, -1, 0);
        x.person(1, 2, 10, -1, 0);
        x.offer(0);
        x.offer(1);
        x.offer(2);
        x.offer(3);
        x.offer(4);
        text(x, 22, 0, "a");
        text(x, 32, 0, "a+n");
        due(34, "no such bit", x.judge(8, 0), NONE);
        due(34, "no such bit", x.judge(0, 4), NONE);
        due(34, "no such bit", x.judge(-1, 0), NONE);
        due(34, "no such bit", x.judge(0, LEAST), NONE);
        due(34, "it gives more", x.judge(1, 0), 3);
        due(34, "it gives less", x.judge(1, 1), 4);
        due(34, "the other gives more", x.judge(2, 1), 4);
        due(34, "LET", x.judge(0, 0), 0);
        x.fact(1, 2, 1);
        x.fact(4, 2, 1);
        due(34, "WORTH for SIDE 1", x.judge(4, 2), 3 + 1);
        text(x, 22, 0, "10");
        text(x, 32, 0, "10");
        due(34, "a CHILD alone", x.judge(4, 2), 5);
        due(34, "its PERSON alone", x.judge(1, 2), 5);
        due(34, "both", x.judge(5, 3), 0);
        judgeMore(x);
    }

    private static void judgeMore(NameRolls x) {
        due(34, "LET", x.judge(2, 2), 0);
        x.fact(1, 1, 1);
        text(x, 1, 1, "1");
        due(34, "not yet", x.judge(2, 2), 0);
        x.days(1);
        due(34, "one who MAY STAY", x.judge(2, 0), 2);
        due(34, "who does not go", x.judge(5, 3), 0);
        x.become(0, 7);
        due(34, "not IN CAMP, ahead of all", x.judge(3, 0), 1);
        due(34, "a PERSON who is not IN CAMP counts", x.judge(4, 1), 5);
        due(34, "the lists stay", x.offer(0), NONE);
        due(34, "MAY STAY ahead of a CHILD", x.judge(6, 0), 2);
    }

    private static void doctors() {
        NameRolls x = new NameRolls();
        x.camp(0, 99);
        x.camp(1, 99);
        for (int i = 0; i < 3; i++) {
            x.person(3, 0, 20, -1, 0);
            x.person(3, 1, 20, -1, 0);
        }
        for (int i = 0; i < 5; i++) {
            x.person(2, 0, 20, -1, 1);
        }
        due(33, "ratio(0)", x.ratio(0), NONE);
        due(33, "ratio(100)", x.ratio(100), NONE);
        due(33, "ratio(99)", x.ratio(99), 10);
        due(33, "ratio(2)", x.ratio(2), 99);
        for (int i = 0; i < 7; i++) {
            x.offer(i);
        }
        due(34, "5 by 2 want 3", x.judge(1, 1), 6);
        due(34, "one with a GRADE goes, too", x.judge(9, 3), 0);
        due(34, "nobody with a GRADE in the other camp", x.judge(8, 1), 0);
        x.ratio(1);
        due(34, "as many as there were", x.judge(8, 1), 0);
        due(34, "not less", x.judge(9, 3), 6);
        x.ratio(5);
        due(34, "one is enough", x.judge(3, 3), 0);
        due(34, "none is not", x.judge(7, 7), 6);
        x.ratio(4);
        due(34, "the rest counts as one more", x.judge(3, 3), 6);
        for (int i = 6; i < 11; i++) {
            x.heal(i, 0);
        }
        due(34, "nobody has a GRADE", x.judge(7, 7), 0);
    }

    private static void best() {
        NameRolls x = land();
        for (int i = 0; i < 8; i++) {
            x.person(1, i < 4 ? 0 : 2, 20 + i, -1, 0);
        }
        due(35, "no lists", x.best(), STATE);
        x.offer(0);
        due(35, "one list", x.best(), STATE);
        due(36, "before any", x.bestOf(0), NONE);
        x.offer(1);
        x.offer(2);
        x.offer(4);
        x.offer(5);
        due(35, "two for two", x.best(), 4);
        due(36, "the least set", x.bestOf(0), 3);
        due(36, "all", x.bestOf(1), 3);
        due(36, "side 2", x.bestOf(2), NONE);
        due(36, "side -1", x.bestOf(-1), NONE);
        due(35, "the lists are empty", x.best(), STATE);
        due(36, "it stays", x.bestOf(0), 3);
        due(32, "offer", x.offer(0), 1);
        due(35, "the other list is empty", x.best(), STATE);
        x.offer(1);
        x.offer(2);
        x.offer(4);
        x.offer(5);
        x.offer(6);
        text(x, 22, 0, "a=20");
        text(x, 32, 0, "a=25");
        due(35, "those that count nothing", x.best(), 4);
        due(36, "the least difference", x.bestOf(0), 6);
        due(36, "the least difference", x.bestOf(1), 5);
        bestOfNone();
    }

    private static void bestOfNone() {
        NameRolls x = land();
        x.person(1, 0, 20, -1, 0);
        x.person(1, 2, 20, -1, 0);
        x.person(1, 0, 20, -1, 0);
        text(x, 22, 0, "k*2");
        x.offer(0);
        x.offer(1);
        due(35, "one for one", x.best(), 2);
        text(x, 32, 0, "a*(3*n+1)");
        x.fact(0, 2, 1);
        x.fact(1, 2, 1);
        x.letter();
        x.days(8);
        x.fact(1, 2, 0);
        x.offer(0);
        x.offer(1);
        due(35, "known to SIDE 1 by a letter", x.judge(1, 1), 0);
        x.become(0, 8);
        due(35, "nobody", x.best(), 0);
        due(36, "no bits", x.bestOf(0), 0);
        due(36, "no bits", x.bestOf(1), 0);
    }

    private static void loads() {
        NameRolls x = new NameRolls();
        for (int i = 0; i < 8; i++) {
            x.camp(0, 9);
        }
        due(37, "no such camp", x.load(8, 1, 1), NONE);
        due(37, "no such camp", x.load(-1, 1, 1), NONE);
        due(37, "nobody", x.load(0, 0, 0), NONE);
        due(37, "stretchers 100", x.load(0, 100, 0), NONE);
        due(37, "feet 100", x.load(0, 0, 100), NONE);
        due(37, "feet -1", x.load(0, 5, -1), NONE);
        due(37, "no way", x.load(0, 1, 1), NOT);
        for (int i = 0; i < 7; i++) {
            x.road(i, 16, 1 + i);
        }
        for (int i = 0; i < 6; i++) {
            due(37, "load", x.load(i, 99 * (i % 2), 99), i + 1);
        }
        due(37, "stretchers alone", new NameRolls().load(0, 1, 0), NONE);
        due(37, "FULL", x.load(6, 1, 0), FULL);
        due(37, "NOT ahead of FULL", x.load(7, 1, 1), NOT);
        due(37, "twice", x.load(0, 1, 1), NONE);
    }

    private static void sails() {
        NameRolls x = new NameRolls();
        x.camp(0, 9);
        x.camp(1, 9);
        x.road(0, 16, 2);
        x.road(1, 16, 5);
        due(38, "none is told", x.sail(9, 9, 9), STATE);
        due(38, "STRETCHERS 0, FEET 999", x.sail(0, 999, 1), STATE);
        due(38, "STRETCHERS 999, FEET 0", x.sail(999, 0, 30), STATE);
        due(38, "feet 1000", x.sail(9, 1000, 9), NONE);
        due(38, "stretchers 1000", x.sail(1000, 9, 9), NONE);
        due(38, "feet -1", x.sail(9, -1, 9), NONE);
        due(38, "turn 0", x.sail(9, 9, 0), NONE);
        due(38, "turn 31", x.sail(9, 9, 31), NONE);
        x.days(10);
        x.load(1, 4, 6);
        x.load(0, 1, 1);
        due(38, "too great", x.sail(3, 99, 1), NOT);
        due(38, "too great", x.sail(99, 5, 1), NOT);
        due(38, "one behind the other", x.sail(99, 99, 1), 12 * 2 + 15 * 10);
        due(39, "the place told as bit", x.voyage(0, 0), 2);
        due(39, "its DAY", x.voyage(0, 1), 12);
        due(39, "the next", x.voyage(1, 0), 1);
        due(39, "its DAY", x.voyage(1, 1), 15);
        due(39, "no third", x.voyage(2, 0), NONE);
        due(39, "no voyage -1", x.voyage(-1, 0), NONE);
        due(39, "what 2", x.voyage(0, 2), NONE);
        due(38, "the camps are none", x.sail(99, 99, 1), STATE);
        due(39, "it stays", x.voyage(1, 1), 15);
        due(37, "load", x.load(1, 4, 6), 1);
        x.load(0, 1, 1);
        due(38, "together", x.sail(5, 7, 30), 12 * 15);
        due(39, "both", x.voyage(0, 0), 3);
        due(39, "no second", x.voyage(1, 0), NONE);
        equalVoyages();
        tooManyStretchers();
    }

    private static void tooManyStretchers() {
        NameRolls x = new NameRolls();
        for (int i = 0; i < 2; i++) {
            x.camp(0, 9);
            x.road(i, 16, 1);
            due(37, "stretchers alone", x.load(i, 4, 0), i + 1);
        }
        due(38, "one is too great", x.sail(3, 9, 5), NOT);
        due(38, "each alone", x.sail(4, 0, 5), 4 * 1 + 4 * 6);
        due(39, "two voyages", x.voyage(1, 0), 2);
        x.load(0, 4, 2);
        x.load(1, 4, 2);
        due(38, "both just so", x.sail(8, 4, 5), 12);
        due(39, "one voyage", x.voyage(0, 0), 3);
    }

    private static void equalVoyages() {
        NameRolls x = new NameRolls();
        for (int i = 0; i < 3; i++) {
            x.camp(0, 9);
            x.road(i, 16, 1);
            x.load(i, 0, 1);
        }
        due(38, "two and one", x.sail(0, 2, 1), 4);
        due(39, "the first one's least set", x.voyage(0, 0), 3);
        due(39, "then the next one's", x.voyage(1, 0), 4);
        due(39, "its DAY", x.voyage(1, 1), 2);
    }

    private static void walkers() {
        NameRolls x = new NameRolls();
        due(40, "row 2", x.walker(2, 1), NONE);
        due(40, "row -1", x.walker(-1, 1), NONE);
        due(40, "minutes 0", x.walker(0, 0), NONE);
        due(40, "minutes 10", x.walker(0, 10), NONE);
        for (int i = 1; i <= 10; i++) {
            due(40, "walker", x.walker(1, 9), i);
        }
        due(40, "FULL", x.walker(1, 1), FULL);
        due(40, "the other row", x.walker(0, 9), 1);
        due(41, "too many in one row", x.bridge(3), NOT);
        for (int i = 2; i <= 10; i++) {
            due(40, "they stay", x.walker(0, 9), i);
        }
        due(41, "side by side", x.bridge(1), 90);
        due(42, "both", x.began(81), 3);
        due(42, "none", x.began(89), 0);
        due(42, "behind its end", x.began(90), NONE);
    }

    private static void bridges() {
        NameRolls x = new NameRolls();
        due(41, "ahead 0", x.bridge(0), NONE);
        due(41, "ahead 4", x.bridge(4), NONE);
        due(41, "both empty", x.bridge(1), STATE);
        x.walker(1, 2);
        due(41, "row 0 is empty", x.bridge(1), STATE);
        x.walker(0, 1);
        x.walker(0, 1);
        x.walker(0, 1);
        due(41, "it can't be", x.bridge(1), NOT);
        due(41, "two over ahead of one", x.bridge(2), 3);
        int[] want = {3, 1, 1};
        for (int m = 0; m < 3; m++) {
            due(42, "began(" + m + ")", x.began(m), want[m]);
        }
        due(42, "began(3)", x.began(3), NONE);
        due(42, "began(-1)", x.began(-1), NONE);
        due(41, "both rows are empty", x.bridge(2), STATE);
        due(42, "it stays", x.began(1), 1);
        due(40, "walker", x.walker(0, 1), 1);
        x.walker(0, 1);
        x.walker(0, 1);
        x.walker(1, 4);
        x.walker(1, 1);
        due(41, "a row waits", x.bridge(1), 5);
        int[] waits = {3, 0, 0, 1, 3};
        for (int m = 0; m < 5; m++) {
            due(42, "began(" + m + ")", x.began(m), waits[m]);
        }
    }

    private static void sought() {
        NameRolls x = land();
        due(43, "no such camp", x.sought(3, 0, 1), NONE);
        due(43, "no such camp", x.sought(16, 0, 1), NONE);
        due(43, "from -1", x.sought(0, -1, 1), NONE);
        due(43, "to 601", x.sought(0, 0, 601), NONE);
        due(43, "b ahead of a", x.sought(0, 2, 1), NONE);
        due(44, "none told", x.find(0), STATE);
        due(44, "side 2", x.find(2), NONE);
        x.days(10);
        x.person(1, 0, 1, -1, 0);
        x.person(1, 1, 1, -1, 0);
        x.person(1, 2, 1, -1, 0);
        x.days(5);
        x.move(0, 1);
        x.days(5);
        due(43, "sought", x.sought(0, 0, 9), 1);
        due(44, "ahead of its coming", x.find(0), 2);
        due(45, "the first", x.found(0), 0);
        due(45, "the next", x.found(1), 1);
        due(45, "no third", x.found(2), NONE);
        due(44, "of SIDE 1", x.find(1), 1);
        due(45, "found(-2)", x.found(-2), NONE);
        due(43, "one DAY", x.sought(1, 16, 16), 2);
        due(44, "on the road", x.find(0), 2);
        due(43, "the DAY when it left", x.sought(1, 15, 15), 3);
        due(44, "counts", x.find(0), 1);
        due(45, "the other", x.found(0), 1);
        soughtMore(x);
    }

    private static void soughtMore(NameRolls x) {
        due(45, "the STAYS are gone", x.found(-1), 1);
        due(45, "the latest find() stays", x.found(0), 1);
        due(44, "none told", x.find(0), STATE);
        due(45, "still", x.found(0), 1);
        due(45, "again", x.found(-1), 1);
        x.sought(0, 17, 17);
        due(44, "the DAY when it comes counts", x.find(0), 0);
        due(45, "nobody", x.found(0), NONE);
        x.found(-1);
        x.sought(2, 21, 600);
        due(44, "behind TODAY", x.find(0), 2);
        x.days(1);
        due(44, "up to TODAY", x.find(0), 0);
        x.found(-1);
        x.sought(1, 20, 600);
        due(44, "it goes on", x.find(0), 2);
        x.sought(0, 20, 20);
        due(44, "each by itself", x.find(0), 0);
        x.found(-1);
        x.sought(0, 0, 0);
        x.become(0, 6);
        due(44, "LET GO", x.find(0), 1);
        x.person(1, 0, 1, -1, 0);
        x.move(1, 17);
        x.move(3, 16);
        x.days(5);
        due(44, "at the harbour, at the bridge", x.find(0), 2);
        x.become(3, 4);
        due(44, "ABOARD", x.find(0), 2);
        x.become(1, 5);
        due(44, "HANDED OVER", x.find(0), 1);
        due(45, "the one aboard", x.found(0), 3);
        for (int i = 2; i <= 5; i++) {
            due(43, "sought", x.sought(0, 600, 600), i);
        }
        due(43, "FULL", x.sought(0, 0, 0), FULL);
        due(43, "NONE ahead of FULL", x.sought(0, 1, 0), NONE);
    }

    private static void rounds() {
        NameRolls x = new NameRolls();
        due(46, "go -1", x.round(-1, 0), NONE);
        due(46, "go 100", x.round(100, 0), NONE);
        due(46, "come -1", x.round(0, -1), NONE);
        due(46, "come 100", x.round(0, 100), NONE);
        due(48, "no list", x.order(), STATE);
        due(47, "aim 0", x.aim(0), NONE);
        due(47, "aim 1000", x.aim(1000), NONE);
        for (int i = 1; i <= 4; i++) {
            due(47, "aim", x.aim(i == 1 ? 999 : 1), i);
        }
        due(47, "FULL", x.aim(1), FULL);
        due(48, "no list", x.order(), STATE);
        for (int i = 1; i <= 6; i++) {
            due(46, "round", x.round(i == 1 ? 99 : 0, i == 1 ? 0 : 99), i);
        }
        due(46, "FULL", x.round(1, 1), FULL);
        due(46, "NONE ahead of FULL", x.round(1, 100), NONE);
        due(48, "order", x.order(), 495);
        due(49, "the last", x.ordered(5), 0);
        due(49, "the first", x.ordered(0), 1);
        due(49, "no seventh", x.ordered(6), NONE);
        due(49, "ordered(-1)", x.ordered(-1), NONE);
    }

    private static void orders() {
        NameRolls x = new NameRolls();
        x.round(5, 5);
        due(48, "no aim", x.order(), STATE);
        due(47, "aim", x.aim(5), 1);
        due(48, "the list by which it has its AIM counts", x.order(), 5);
        due(48, "all are none then", x.order(), STATE);
        due(49, "it stays", x.ordered(0), 0);
        due(46, "round", x.round(3, 1), 1);
        x.round(3, 1);
        x.round(3, 2);
        due(47, "aim", x.aim(6), 1);
        due(48, "two of three", x.order(), 3);
        due(49, "the first by places", x.ordered(0), 0);
        due(49, "the first by places", x.ordered(1), 2);
        due(49, "the first by places", x.ordered(2), 1);
        x.round(3, 1);
        x.round(3, 7);
        x.aim(2);
        x.aim(10);
        due(48, "the least over all AIMS", x.order(), 7);
        due(49, "so", x.ordered(0), 1);
        due(49, "as many as lists", x.ordered(2), NONE);
    }

    private static void trace(NameRolls x, int... bodies) {
        for (int i = 0; i < bodies.length; i++) {
            due(51, "trace(" + i + ")", x.trace(i), bodies[i]);
        }
        due(51, "no more", x.trace(bodies.length), NONE);
    }

    private static void acts() {
        NameRolls x = land();
        for (int kind = 1; kind <= 7; kind++) {
            x.person(kind, 0, 10 * kind, -1, kind == 2 ? 4 : 0);
        }
        due(50, "HELD goes", x.act(0, 0, 5), 14);
        trace(x, 20, 10);
        due(50, "HELD tells", x.act(0, 2, 5), 28);
        trace(x, 12, 11, 20, 10);
        due(50, "SICK ranks", x.act(1, 1, 5), 52);
        trace(x, 30, 11, 20, 10);
        due(50, "DOCTOR tells", x.act(2, 2, 5), -((34 * 2) ^ 2));
        trace(x, 40, 12, 11, 20, 10);
        due(50, "WANTED goes", x.act(3, 0, 5), 47);
        trace(x, 50, 20, 10);
        due(50, "WANTED tells", x.act(3, 2, 5), (94 ^ 3) + 43);
        trace(x, 51, 12, 11, 50, 20, 10, 50, 20, 10);
        due(50, "STAYER ranks", x.act(4, 1, 5), 54 - 108);
        trace(x, 60, 20, 10, 11, 20, 10);
        due(50, "CHILD goes", x.act(5, 0, 5), 64 * 3);
        trace(x, 70, 20, 10);
        due(50, "CHILD ranks", x.act(5, 1, 5), 64 * 6);
        due(50, "HOSTAGE goes", x.act(6, 0, 5), 82);
        trace(x, 81, 50, 20, 10);
        due(50, "HOSTAGE ranks", x.act(6, 1, 5), 164 ^ 82);
        trace(x, 80, 11, 81, 50, 20, 10, 81, 50, 20, 10);
        due(50, "HOSTAGE tells", x.act(6, 2, 5), ((164 ^ 82) ^ 6) + 78);
        int[] whole = {51, 12, 80, 11, 81, 50, 20, 10, 81, 50, 20, 10, 81, 50, 20, 10};
        trace(x, whole);
        due(50, "no such act", x.act(6, 3, 5), NO_VALUE);
        due(50, "no such act", x.act(6, -1, 5), NO_VALUE);
        due(50, "no such person", x.act(7, 0, 5), NO_VALUE);
        due(50, "no such person", x.act(-1, 0, 5), NO_VALUE);
        trace(x, whole);
        due(51, "trace(-1)", x.trace(-1), NONE);
        due(50, "it wraps", x.act(5, 0, MOST), (MOST + 59) * 3);
    }

    private static void taken() {
        NameRolls x = land();
        for (int kind = 1; kind <= 7; kind++) {
            x.person(kind, 0, 1, -1, kind == 2 ? 4 : 0);
        }
        for (int kind = 1; kind <= 7; kind++) {
            for (int k = 0; k <= 7; k++) {
                boolean under = k <= 1 || k == kind || kind == 7 && k == 4;
                due(52, "taken", x.taken(kind - 1, k), under ? kind : CAST);
            }
        }
        due(52, "kind 8", x.taken(0, 8), NONE);
        due(52, "kind -1", x.taken(0, -1), NONE);
        due(52, "no such person", x.taken(7, 0), NONE);
        due(52, "no such person", x.taken(-1, 0), NONE);
    }

    private static void tables() {
        NameRolls x = new NameRolls();
        due(53, "table 4", x.table(4, 0, 1), NONE);
        due(53, "table -1", x.table(-1, 0, 1), NONE);
        due(53, "sort 2", x.table(0, 2, 1), NONE);
        due(53, "sort -2", x.table(0, -2, 1), NONE);
        due(53, "n 61", x.table(0, 0, 61), NONE);
        due(53, "n -1", x.table(0, 1, -1), NONE);
        due(54, "table 4", x.item(4, 0, 1), NONE);
        due(54, "nothing", x.item(0, 99, 1), CAST);
        due(53, "bytes", x.table(0, 0, 60), 1);
        due(54, "item", x.item(0, 59, 0x12380), 1);
        due(55, "its sign", x.read(0, 59), -128);
        due(54, "place 60", x.item(0, 60, 1), NONE);
        due(54, "place -1", x.item(0, -1, 1), NONE);
        due(55, "place 60", x.read(0, 60), NO_VALUE);
        due(55, "place -1", x.read(0, -1), NO_VALUE);
        due(55, "table 4", x.read(4, 0), NO_VALUE);
        due(55, "nothing", x.read(1, 0), NO_VALUE);
        due(54, "item", x.item(0, 0, 200), 1);
        due(55, "its sign", x.read(0, 0), -56);
        due(53, "shorts", x.table(0, 1, 60), 1);
        due(55, "all 0", x.read(0, 59), 0);
        due(55, "all 0", x.read(0, 0), 0);
        due(54, "item", x.item(0, 59, 0x18000), 1);
        due(55, "its sign", x.read(0, 59), -32768);
        due(53, "a row of none", x.table(0, 1, 0), 1);
        due(54, "place 0", x.item(0, 0, 1), NONE);
        due(31, "a row of none", x.list(0, 0, 0, 1), 0);
        due(53, "nothing again", x.table(0, -1, MOST), 1);
        due(54, "nothing again", x.item(0, 0, 1), CAST);
        due(55, "nothing again", x.read(0, 0), NO_VALUE);
        due(53, "table 3", x.table(3, 1, 1), 1);
        due(54, "table 3", x.item(3, 0, -7), 1);
        due(55, "table 3", x.read(3, 0), -7);
        due(56, "blank", x.blank(LEAST), -1);
        due(56, "blank", x.blank(MOST), LEAST);
        due(56, "blank", x.blank(0), MOST);
    }

    private static void counts() {
        NameRolls x = land();
        for (int i = 0; i < 9; i++) {
            x.person(1, 0, 1, -1, 0);
        }
        for (int i = 1; i < 6; i++) {
            x.move(i, i == 3 ? 17 : 16);
        }
        x.days(6);
        x.move(6, 1);
        x.move(8, 1);
        x.become(4, 4);
        x.become(5, 4);
        x.become(5, 5);
        x.become(7, 6);
        x.become(8, 8);
        int[] want = {3, 9, 6, 0, 0, 0, 0, 0, 9, 0, 1, 1, 2, 1, 1, 1, 1, 0, 1};
        for (int what = 0; what < want.length; what++) {
            due(57, "count(" + what + ")", x.count(what), want[what]);
        }
        x.become(0, 7);
        due(57, "RUN OFF", x.count(17), 1);
        due(57, "IN CAMP", x.count(10), 0);
        due(57, "count(19)", x.count(19), NONE);
        due(57, "count(-1)", x.count(-1), NONE);
        x.days(2);
        due(57, "STAYS", x.count(8), 10);
        x.feed(3, 0);
        due(57, "bytes", x.count(9), 3);
    }
}
