/** The calls that README.md shows, and what it says of refused ones, promise by promise where it names one. */
public final class ReadmeTests {
    private static int wrong = 0;

    private static void due(String what, int got, int want) {
        if (got != want) {
            wrong++;
            System.out.println(what + " answered " + got + ", due is " + want);
        }
    }

    public static void main(String[] args) {
        NameRolls x = new NameRolls();
        int camp = x.camp(0, 20);
        due("camp", camp, 0);
        due("road", x.road(camp, 16, 3), 3);
        int sick = x.person(2, camp, 40, -1, 8);
        due("person", sick, 0);
        due("move", x.move(sick, 16), 3);
        due("days", x.days(3), 3);
        due("of", x.of(sick, 2), 2);
        due("feed", x.feed(3, 'g' | '>' << 8 | '3' << 16), 3);
        due("text", x.text(0, 0), 0);
        due("fact", x.fact(sick, 0, 0), NameRolls.STATE);
        due("owed", x.owed(sick, 3, 3), 0);
        refusedText();
        noRefusals(x, sick);
        System.out.println(wrong == 0 ? "README.md's calls answer so" : wrong + " answers are not as due");
        if (wrong != 0) {
            System.exit(1);
        }
    }

    /** The tape stays by NONE and FULL, and is empty by a FAULT. */
    private static void refusedText() {
        NameRolls x = new NameRolls();
        x.feed(2, 'k' | 'k' << 8);
        due("text of no party", x.text(40, 0), NameRolls.NONE);
        due("the tape stays", x.count(9), 2);
        due("text", x.text(0, 0), -101);
        due("the tape is empty", x.count(9), 0);
        for (int i = 0; i < 20; i++) {
            x.feed(1, 'k');
            due("text", x.text(0, 0), i);
        }
        x.feed(2, 'k' | 'k' << 8);
        due("text beyond 20", x.text(0, 0), NameRolls.FULL);
        due("the tape stays", x.count(9), 2);
    }

    /** Where -1 is no refusal. */
    private static void noRefusals(NameRolls x, int sick) {
        due("no WITH", x.of(sick, 5), -1);
        due("in no CAMP", x.of(sick, 3), -1);
        due("not on the road", x.of(sick, 10), -1);
        int other = x.person(1, 0, 30, -1, 0);
        due("the STAY goes on", x.stay(other, 0, 2), -1);
        x.feed(3, '0' | '?' << 8 | '1' << 16);
        due("text", x.text(10, 0), 1);
        due("no LINE counts", x.says(1, other, 1, 3, 3), -1);
        due("table", x.table(0, 1, 1), 1);
        due("item", x.item(0, 0, -1), 1);
        due("read", x.read(0, 0), -1);
        due("blank", x.blank(-5), -1);
        due("blank", x.blank(0), -5);
        due("act", x.act(other, 0, -30), -1);
    }
}
