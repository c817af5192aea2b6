/** Promises 11 to 13: the tape, rules, who keeps them. */
public final class RulesTest {
    public static void main(String[] args) {
        feed();
        ruleNumbers();
        faults();
        ruleFull();
        keepsFields();
        keepsJoints();
        keepsRefusals();
        Check.finish("RulesTest");
    }

    private static void feed() {
        DrumBoats x = new DrumBoats();
        Check.due("feed 0 bytes", x.feed(0, 0), -2);
        Check.due("feed 9 bytes", x.feed(0, 9), -2);
        Check.due("feed -1 bytes", x.feed(0, -1), -2);
        // Only the lowest bytes count, the highest of them first.
        Check.due("feed me", x.feed(0x7878786D65L, 2), 2);
        Check.due("feed n>1", x.feed(0x6E3E31L, 3), 5);
        Check.due("the tape reads men>1", x.rule(), 0);
        Check.due("count(5) after rule", x.count(5), 0);
        Check.due("feed from the highest byte", x.feed(0x6D656E3E39393939L, 8), 8);
        Check.due("the tape reads men>9999", x.rule(), 1);
        for (int i = 1; i <= 14; i++) {
            Check.due("feed 8 bytes", x.feed(-1L, 8), 8 * i);
        }
        Check.due("feed 7 bytes", x.feed(-1L, 7), 119);
        Check.due("feed 2 where 1 goes", x.feed(-1L, 2), -4);
        Check.due("feed 9 where 1 goes", x.feed(-1L, 9), -2);
        Check.due("a refused feed leaves the tape", x.count(5), 119);
        Check.due("feed the last", x.feed(-1L, 1), 120);
        Check.due("feed one more", x.feed(-1L, 1), -4);
        Check.due("count(5)", x.count(5), 120);
        Check.due("bytes of 255 are no rule", x.rule(), -10);
    }

    private static void ruleNumbers() {
        DrumBoats x = new DrumBoats();
        String[] good = {
            "men<1", "not women=12", "old>123 or young<1234 and weight=0",
            "crew=8 and not crew=8", "weight<0000",
            "men<1 and men<1 or men<1 and men<1 or men<1 and men<1 or men<1 and men<1",
        };
        for (int i = 0; i < good.length; i++) {
            Check.due(good[i], Check.ruleOf(x, good[i]), i);
        }
        Check.due("count(2)", x.count(2), 6);
    }

    private static void fault(String text, int place) {
        DrumBoats x = new DrumBoats();
        Check.due("rule '" + text + "'", Check.ruleOf(x, text), -10 - place);
        Check.due("no rule of '" + text + "'", x.count(2), 0);
        Check.due("the tape is empty after '" + text + "'", x.count(5), 0);
        Check.due("a rule after '" + text + "'", Check.ruleOf(x, "men=0"), 0);
    }

    private static void faults() {
        fault("", 0);
        fault(" men<1", 0);
        fault("Men<1", 0);
        fault("or", 1);
        fault("and men<1", 0);
        fault("m", 1);
        fault("man<1", 1);
        fault("wx", 1);
        fault("womxn<1", 3);
        fault("wei", 3);
        fault("weighs<1", 5);
        fault("ola<1", 2);
        fault("yourg<1", 3);
        fault("crow<1", 2);
        fault("no", 2);
        fault("not", 3);
        fault("notmen<1", 3);
        fault("not  men<1", 4);
        fault("not not men<1", 4);
        fault("men", 3);
        fault("men <1", 3);
        fault("men<", 4);
        fault("men<=1", 4);
        fault("men< 1", 4);
        fault("men!1", 3);
        fault("men<-1", 4);
        fault("men<12345", 8);
        fault("men<1 ", 6);
        fault("men<1  or men<1", 6);
        fault("men<1or men<1", 5);
        fault("men<1 o", 7);
        fault("men<1 old<1", 7);
        fault("men<1 or", 8);
        fault("men<1 ormen<1", 8);
        fault("men<1 or ", 9);
        fault("men<1 or or men<1", 10);
        fault("men<1 an men<1", 8);
        fault("men<1 and", 9);
        fault("men<1 and  men<1", 10);
        fault("men<1 not men<1", 6);
        fault("men<1,men<1", 5);
        fault("men<1\u00e9", 5);
        fault("men<1\n", 5);
        String eight = "men<1";
        for (int i = 0; i < 7; i++) {
            eight = eight + (i % 2 == 0 ? " or old=1" : " and not crew>22");
        }
        fault(eight + " and men<1", eight.length());
        fault(eight + " ", eight.length());
        fault(eight + "x", eight.length());
        String long120 = "not weight<1234";
        while (long120.length() < 120) {
            long120 = long120 + " and not weight<1234";
        }
        fault(long120.substring(0, 120), 120);
    }

    private static void ruleFull() {
        DrumBoats x = new DrumBoats();
        for (int i = 0; i < 6; i++) {
            Check.due("rule " + i, Check.ruleOf(x, "men<" + i), i);
        }
        Check.due("rule 7", Check.ruleOf(x, "men<1"), -4);
        Check.due("the tape stays", x.count(5), 5);
        Check.due("the tape goes on", x.feed('1', 1), 6);
        Check.due("count(2)", x.count(2), 6);
    }

    /** Seated: men of 18 and 40, women of 17 and 39; weights 50, 60, 70, 81; a child waits ashore. */
    private static DrumBoats seatedCrew() {
        DrumBoats x = new DrumBoats();
        x.paddler(50, 50, 0, 0, 18);
        x.paddler(60, 50, 1, 0, 40);
        x.paddler(70, 50, 0, 1, 17);
        x.paddler(81, 50, 1, 1, 39);
        x.crew(2, 99);
        for (int p = 0; p < 4; p++) {
            x.join(0, p);
        }
        x.seat(0);
        return x;
    }

    private static void keeps(String text, int want) {
        DrumBoats x = seatedCrew();
        Check.due("rule '" + text + "'", Check.ruleOf(x, text), 0);
        Check.due("keeps '" + text + "'", x.keeps(0, 0), want);
    }

    private static void keepsFields() {
        String[] fields = {"men", "women", "old", "young", "weight", "crew"};
        int[] tallies = {2, 2, 1, 1, 261, 4};
        for (int f = 0; f < fields.length; f++) {
            for (int by = -1; by <= 1; by++) {
                int number = tallies[f] + by;
                keeps(fields[f] + "<" + number, by > 0 ? 1 : 0);
                keeps(fields[f] + "=" + number, by == 0 ? 1 : 0);
                keeps(fields[f] + ">" + number, by < 0 ? 1 : 0);
                keeps("not " + fields[f] + "<" + number, by > 0 ? 0 : 1);
            }
        }
        keeps("men=0002", 1);
        keeps("weight<9999", 1);
        // A member who does not sit does not count.
        DrumBoats x = new DrumBoats();
        for (int p = 0; p < 4; p++) {
            x.paddler(50, 50, p % 2, 0, 30);
        }
        x.paddler(150, 50, 2, 1, 10);
        x.crew(2, 0);
        for (int p = 0; p < 5; p++) {
            x.join(0, p);
        }
        x.seat(0);
        Check.ruleOf(x, "women=0 and young=0 and crew=4 and weight=200");
        Check.due("keeps with one ashore", x.keeps(0, 0), 1);
    }

    private static void keepsJoints() {
        String yes = "men=2";
        String no = "men=3";
        keeps(yes + " or " + no + " and " + no, 1);
        keeps(no + " and " + no + " or " + yes, 1);
        keeps(no + " and " + yes + " or " + no, 0);
        keeps(yes + " and " + no + " or " + no + " and " + yes, 0);
        keeps(yes + " and " + yes + " and " + no, 0);
        keeps("not " + yes + " or " + yes, 1);
        keeps("not " + no + " and not " + yes, 0);
        keeps("not " + no + " and " + no, 0);
    }

    private static void keepsRefusals() {
        DrumBoats x = seatedCrew();
        Check.due("no rule", x.keeps(0, 0), -1);
        Check.ruleOf(x, "men=2");
        Check.due("no crew", x.keeps(1, 0), -1);
        Check.due("crew -1", x.keeps(-1, 0), -1);
        Check.due("rule -1", x.keeps(0, -1), -1);
        Check.due("no second rule", x.keeps(0, 1), -1);
        x.crew(2, 0);
        Check.due("not seated", x.keeps(1, 0), -3);
        Check.due("not seated, no rule", x.keeps(1, 1), -1);
        Check.due("keeps", x.keeps(0, 0), 1);
        Check.due("keeps once more", x.keeps(0, 0), 1);
    }
}
