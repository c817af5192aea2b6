/**
 * Terms, part 2, and promises 11 to 13: each sentence that names a bound has a test of its own, at
 * the bound and on both sides of it.
 */
public final class RuleBoundsTest {
    private static final String[] FIELDS = {"men", "women", "old", "young", "weight", "crew"};
    /** A byte that stands nowhere in a rule. */
    private static final char STRANGE = (char) 255;

    public static void main(String[] args) {
        tapeIs120BytesAtMost();
        feedTakes1To8Bytes();
        feedTakesTheLowestBytes();
        numberHas1To4Digits();
        signIsOneOfThree();
        fieldsAreSix();
        blanksAreOne();
        noBlankElsewhere();
        notStandsOnce();
        testsAreEightAtMost();
        faultAtEachPlace();
        faultAtEachEnd();
        faultOfEachByte();
        tapeIsEmptyAfterARule();
        tapeStaysWhenFull();
        rulesAreSixAtMost();
        fullTapeIsRead();
        oldIs40OrMore();
        youngIsBelow18();
        menAndWomen();
        weightTogether();
        howManyTheyAre();
        numbersOfATest();
        andBindsCloser();
        keepsOfSeatedCrewsOnly();
        keepsKnowsCrewsAndRules();
        Check.finish("RuleBoundsTest");
    }

    private static void isRule(String text) {
        Check.due("rule '" + text + "'", Check.ruleOf(new DrumBoats(), text), 0);
    }

    private static void isFault(String text, int place) {
        DrumBoats x = new DrumBoats();
        Check.due("rule '" + text + "'", Check.ruleOf(x, text), -10 - place);
        Check.due("rules after '" + text + "'", x.count(2), 0);
        Check.due("the tape after '" + text + "'", x.count(5), 0);
    }

    private static DrumBoats fed(int bytes) {
        DrumBoats x = new DrumBoats();
        int left = bytes;
        while (left > 0) {
            int n = Math.min(8, left);
            x.feed(0, n);
            left -= n;
        }
        Check.due("fed", x.count(5), bytes);
        return x;
    }

    /** "THE TAPE (bytes, 120 at most)"; "how many it has .. FULL." */
    private static void tapeIs120BytesAtMost() {
        for (int n = 1; n <= 8; n++) {
            for (int has = 120 - n - 1; has <= 120 - n + 1; has++) {
                DrumBoats x = fed(has);
                boolean goes = has + n <= 120;
                String call = n + " behind " + has;
                Check.due(call, x.feed(0, n), goes ? has + n : Make.FULL);
                Check.due(call + ": bytes", x.count(5), goes ? has + n : has);
            }
            Check.due(n + " behind 120", fed(120).feed(0, n), Make.FULL);
        }
        DrumBoats x = fed(119);
        Check.due("two are too many", x.feed(0, 2), Make.FULL);
        Check.due("one goes then", x.feed(0, 1), 120);
    }

    /** "The n lowest bytes of w .. BAD: n not 1 .. 8". */
    private static void feedTakes1To8Bytes() {
        Make.range("bytes", 1, 8, Make.BAD, n -> new DrumBoats().feed(0, n));
        for (int n = 1; n <= 8; n++) {
            DrumBoats x = new DrumBoats();
            Check.due("how many it has", x.feed(-1L, n), n);
            Check.due("how many it has then", x.feed(-1L, 9 - n), 9);
            Check.due("refused", x.feed(-1L, 9), Make.BAD);
            Check.due("refused", x.feed(-1L, 0), Make.BAD);
            Check.due("how many it has still", x.count(5), 9);
        }
        Check.due("bad ahead of full", fed(120).feed(0, 9), Make.BAD);
        Check.due("bad ahead of full", fed(120).feed(0, 0), Make.BAD);
    }

    /** "the highest first, come behind THE TAPE's". */
    private static void feedTakesTheLowestBytes() {
        // "men<1": the higher bytes are of no account.
        DrumBoats x = new DrumBoats();
        x.feed(0xFFFFFF6D656E3C31L, 5);
        Check.due("five of eight", x.rule(), 0);
        x.feed(0x6D656E3C31323334L, 8);
        Check.due("all eight: men<1234", x.rule(), 1);
        x.feed(0x6DL, 1);
        x.feed(0x7765L, 1);
        x.feed(0x7777776E3C31L, 3);
        Check.due("one, one and three", x.rule(), 2);
        // The highest byte of a number below 0.
        x.feed(0xEE6D656E3E313233L, 8);
        Check.due("a byte of 238", x.rule(), -10);
        x.feed(0x6D656E3E313233EEL, 8);
        Check.due("a byte of 238 at the end", x.rule(), -17);
        x.feed(Long.MIN_VALUE, 8);
        Check.due("a byte of 128", x.rule(), -10);
        // m with a higher bit: the bytes are not cut to signs of 7 bits.
        x.feed(0xED656E3E31L, 5);
        Check.due("a byte that is m and 128", x.rule(), -10);
    }

    /** "a NUMBER of 1 to 4 digits". */
    private static void numberHas1To4Digits() {
        isFault("men=", 4);
        isRule("men=1");
        isRule("men=12");
        isRule("men=123");
        isRule("men=1234");
        isFault("men=12345", 8);
        isFault("men= or men=1", 4);
        isFault("men=12345 or men=1", 8);
        isRule("men=0");
        isRule("men=0000");
        isFault("men=00000", 8);
        isRule("men=9999");
        isRule("men=0 or men=0001 and men=9");
        isFault("men=1/", 5);
        isFault("men=/", 4);
        isFault("men=1:", 5);
        isFault("men=:", 4);
        isFault("men=+1", 4);
        isFault("men=-1", 4);
    }

    /** "one of < = >". */
    private static void signIsOneOfThree() {
        isRule("men<1");
        isRule("men=1");
        isRule("men>1");
        isFault("men;1", 3);
        isFault("men?1", 3);
        isFault("men1", 3);
        isFault("men<<1", 4);
        isFault("men<=1", 4);
        isFault("men==1", 4);
        isFault("men><1", 4);
    }

    /** "FIELDS: men women old young weight crew". */
    private static void fieldsAreSix() {
        for (String field : FIELDS) {
            isRule(field + "<1");
            isRule("not " + field + "<1");
            isRule("men=1 and " + field + "<1");
            isFault(field + field + "<1", field.length());
            // Without their first letters women and young begin as old does.
            isFault(field.substring(1) + "<1", field.charAt(1) == 'o' ? 1 : 0);
            isFault(field.toUpperCase() + "<1", 0);
            isFault("not " + field.toUpperCase() + "<1", 4);
        }
    }

    /** "one blank between or, and, not and what stands beside them". */
    private static void blanksAreOne() {
        isRule("men=1 or men=1");
        isRule("men=1 and men=1");
        isRule("not men=1");
        isRule("men=1 or not men=1");
        isFault("men=1or men=1", 5);
        isFault("men=1  or men=1", 6);
        isFault("men=1 ormen=1", 8);
        isFault("men=1 or  men=1", 9);
        isFault("men=1and men=1", 5);
        isFault("men=1  and men=1", 6);
        isFault("men=1 andmen=1", 9);
        isFault("men=1 and  men=1", 10);
        isFault("notmen=1", 3);
        isFault("not  men=1", 4);
        isFault("men=1 or notmen=1", 12);
        isFault("men=1 or not  men=1", 13);
        isFault("men=1\tor men=1", 5);
        isFault("men=1 or\tmen=1", 8);
    }

    /** "none else". */
    private static void noBlankElsewhere() {
        String rule = "men=12 and not old<3";
        for (int at = 0; at <= rule.length(); at++) {
            boolean besideBlank = at > 0 && rule.charAt(at - 1) == ' ';
            boolean isBlank = at < rule.length() && rule.charAt(at) == ' ';
            boolean atEnd = at == rule.length();
            // A blank behind a number goes on as a joint would, and the fault comes behind it.
            boolean behindDigit = at > 0 && Character.isDigit(rule.charAt(at - 1));
            int fault = isBlank || behindDigit ? at + 1 : at;
            isFault(rule.substring(0, at) + " " + rule.substring(at), besideBlank && !atEnd ? at : fault);
        }
        isFault(" ", 0);
        isFault("  ", 0);
        isFault("men=1 ", 6);
        isFault("men=1  ", 6);
    }

    /** "TEST: perhaps not, then FIELD". */
    private static void notStandsOnce() {
        isRule("men=1 and not men=1");
        isFault("not not men=1", 4);
        isFault("men=1 and not not men=1", 14);
        isFault("not", 3);
        isFault("not ", 4);
        isFault("men=1 not", 6);
        isFault("not or men=1", 5);
        isFault("not and men=1", 4);
    }

    private static String tests(int tests, String joint) {
        StringBuilder text = new StringBuilder("men=1");
        for (int i = 1; i < tests; i++) {
            text.append(joint).append("men=1");
        }
        return text.toString();
    }

    /** "At most 8 TESTS." */
    private static void testsAreEightAtMost() {
        for (int tests = 1; tests <= 8; tests++) {
            isRule(tests(tests, " or "));
            isRule(tests(tests, " and "));
            isRule(tests(tests, " or not "));
        }
        int length = tests(8, " or ").length();
        isFault(tests(9, " or "), length);
        isFault(tests(9, " and ").substring(0, tests(8, " and ").length() + 1),
                tests(8, " and ").length());
        isFault(tests(8, " or ") + " ", length);
        isFault(tests(8, " or ") + " or", length);
        isFault(tests(8, " or ") + " x", length);
        isFault(tests(7, " or ") + " ", tests(7, " or ").length() + 1);
        isFault(tests(7, " or ") + " or ", length - 5);
        isRule(tests(8, " or ") + "234");
        isFault(tests(8, " or ") + "2345", length + 3);
    }

    private static final String LONG_RULE =
            "men<1 and women=22 or not old>333 and young<4444 or weight=0 and not crew>1";

    /** "FAULT: the place of the first byte with which no RULE can go on". */
    private static void faultAtEachPlace() {
        isRule(LONG_RULE);
        for (int at = 0; at < LONG_RULE.length(); at++) {
            isFault(LONG_RULE.substring(0, at) + STRANGE + LONG_RULE.substring(at + 1), at);
            isFault(LONG_RULE.substring(0, at) + STRANGE, at);
        }
        isFault(LONG_RULE + STRANGE, LONG_RULE.length());
        // The first of two.
        isFault("men" + STRANGE + STRANGE, 3);
        isFault("" + STRANGE, 0);
        isFault("\0", 0);
    }

    /** "(the size of THE TAPE, if it ends too early)". */
    private static void faultAtEachEnd() {
        for (int size = 0; size <= LONG_RULE.length(); size++) {
            String begun = LONG_RULE.substring(0, size);
            // It is a rule wherever a number of it could end.
            if (size > 0 && Character.isDigit(begun.charAt(size - 1))) {
                isRule(begun);
            } else {
                isFault(begun, size);
            }
        }
    }

    /** Each byte in turn: which of them a rule can begin with, and go on with behind a test. */
    private static void faultOfEachByte() {
        for (int b = 0; b < 256; b++) {
            String text = "" + (char) b;
            isFault(text, "mwoycn".indexOf((char) b) >= 0 ? 1 : 0);
            boolean digit = b >= '0' && b <= '9';
            if (digit) {
                isRule("men<1" + text);
                isRule("men<" + text);
            } else {
                isFault("men<1" + text, b == ' ' ? 6 : 5);
                isFault("men<" + text, 4);
            }
            isFault("men<1 " + text, "oa".indexOf((char) b) >= 0 ? 7 : 6);
            isFault("men" + text, "<=>".indexOf((char) b) >= 0 ? 4 : 3);
            isFault("w" + text, "oe".indexOf((char) b) >= 0 ? 2 : 1);
            isFault("not " + text, "mwoyc".indexOf((char) b) >= 0 ? 5 : 4);
        }
    }

    /** "THE TAPE, which is empty then, is a RULE". */
    private static void tapeIsEmptyAfterARule() {
        DrumBoats x = new DrumBoats();
        Check.due("of nothing", x.rule(), -10);
        Check.feedText(x, "men<1");
        Check.due("bytes", x.count(5), 5);
        Check.due("a rule", x.rule(), 0);
        Check.due("no bytes", x.count(5), 0);
        Check.due("of nothing again", x.rule(), -10);
        Check.feedText(x, "men<");
        Check.due("a fault", x.rule(), -14);
        Check.due("no bytes", x.count(5), 0);
        Check.due("the bytes from the first on", x.feed('1', 1), 1);
        Check.due("are read alone", x.rule(), -10);
        Check.due("one rule", x.count(2), 1);
        // 120 bytes go again behind 120 that were read.
        for (int i = 1; i <= 15; i++) {
            x.feed(0, 8);
        }
        Check.due("full", x.feed(0, 1), Make.FULL);
        Check.due("a fault of 120 bytes", x.rule(), -10);
        Check.due("there is room again", x.feed(0, 8), 8);
    }

    private static DrumBoats sixRules() {
        DrumBoats x = new DrumBoats();
        for (int i = 0; i < 6; i++) {
            Check.due("rule " + i, Check.ruleOf(x, "crew=" + i), i);
        }
        return x;
    }

    /** "FULL (THE TAPE stays)." */
    private static void tapeStaysWhenFull() {
        DrumBoats x = sixRules();
        Check.due("full, of nothing", x.rule(), Make.FULL);
        Check.feedText(x, "men<1");
        Check.due("full", x.rule(), Make.FULL);
        Check.due("the tape stays", x.count(5), 5);
        Check.due("full again", x.rule(), Make.FULL);
        Check.due("the tape goes on", x.feed('x', 1), 6);
        Check.due("full, of a fault", x.rule(), Make.FULL);
        Check.due("the tape stays, with its fault", x.count(5), 6);
        Check.due("six rules", x.count(2), 6);
    }

    /** "RULES are numbered from 0 on, 6 at most." */
    private static void rulesAreSixAtMost() {
        DrumBoats x = new DrumBoats();
        Make.paddlers(x, 4);
        x.crew(2, 0);
        Make.join(x, 0, 0, 4);
        x.seat(0);
        for (int i = 0; i < 6; i++) {
            Check.due("rule " + i + " is not there yet", x.keeps(0, i), Make.NONE);
            Check.due("a fault takes no number", Check.ruleOf(x, "men<x"), -14);
            Check.due("rule " + i, Check.ruleOf(x, "crew=" + i), i);
            Check.due("rules", x.count(2), i + 1);
        }
        Check.due("a seventh", Check.ruleOf(x, "crew=6"), Make.FULL);
        for (int i = 0; i < 6; i++) {
            Check.due("rule " + i + " is kept", x.keeps(0, i), i == 4 ? 1 : 0);
        }
        Check.due("rule 6", x.keeps(0, 6), Make.NONE);
    }

    /** A RULE of 120 bytes, and of 119; and such a tape that ends too early. */
    private static void fullTapeIsRead() {
        String seven = "not weight<1234";
        for (int i = 1; i < 6; i++) {
            seven += " or not weight<1234";
        }
        Check.due("the length of six tests", seven.length(), 110);
        isRule(seven + " or men<1");
        isRule(seven + " or men<12");
        Check.due("the length of a full tape", (seven + " or men<12").length(), 120);
        isFault(seven + " and crew<", 120);
        isFault(seven + " or weigh", 119);
        isFault(seven + " or weight", 120);
        isFault(seven + " or men<1x", 119);
        isFault(seven + " or men<1 ", 120);
    }

    /** Members of these ages, men, weight 50, all seated. */
    private static DrumBoats ages(int... ages) {
        DrumBoats x = new DrumBoats();
        x.crew(ages.length / 2, 0);
        for (int p = 0; p < ages.length; p++) {
            x.paddler(50, 50, 2, 0, ages[p]);
            x.join(0, p);
        }
        x.seat(0);
        return x;
    }

    private static void keeps(DrumBoats x, String rule, int want) {
        int number = Check.ruleOf(x, rule);
        Check.due("keeps '" + rule + "'", x.keeps(0, number), want);
    }

    /** "of AGE 40 or more". */
    private static void oldIs40OrMore() {
        keeps(ages(39, 39, 39, 39), "old=0", 1);
        keeps(ages(39, 40, 39, 39), "old=1", 1);
        keeps(ages(39, 40, 41, 39), "old=2", 1);
        keeps(ages(10, 40, 41, 90), "old=3", 1);
        keeps(ages(40, 40, 40, 40, 40, 40, 40, 40), "old=8", 1);
    }

    /** "below 18". */
    private static void youngIsBelow18() {
        keeps(ages(18, 18, 18, 18), "young=0", 1);
        keeps(ages(17, 18, 18, 18), "young=1", 1);
        keeps(ages(17, 18, 16, 19), "young=2", 1);
        keeps(ages(10, 17, 16, 90), "young=3", 1);
        keeps(ages(17, 17, 17, 17, 17, 17, 17, 17), "young=8", 1);
    }

    /** "how many are men, women": all of one sex, one of the other. */
    private static void menAndWomen() {
        for (int women = 0; women <= 4; women++) {
            DrumBoats x = new DrumBoats();
            x.crew(2, 0);
            for (int p = 0; p < 4; p++) {
                x.paddler(50, 50, 2, p < women ? 1 : 0, 20);
                x.join(0, p);
            }
            x.seat(0);
            keeps(x, "men=" + (4 - women) + " and women=" + women, 1);
            keeps(x, "men=" + women + " and women=" + (4 - women), women == 2 ? 1 : 0);
        }
    }

    /** "their WEIGHTS together": the least and the most there can be; the drummer is not of them. */
    private static void weightTogether() {
        for (int rows = 2; rows <= 4; rows++) {
            int[] weights = {30, 150};
            for (int weight : weights) {
                DrumBoats x = new DrumBoats();
                x.crew(rows, 150);
                for (int p = 0; p < 2 * rows; p++) {
                    x.paddler(weight, 50, 2, 0, 20);
                    x.join(0, p);
                }
                x.seat(0);
                int together = 2 * rows * weight;
                keeps(x, "weight=" + together, 1);
                keeps(x, "weight<" + together, 0);
                keeps(x, "weight>" + together, 0);
                keeps(x, "weight<" + (together + 1), 1);
                keeps(x, "weight>" + (together - 1), 1);
            }
        }
    }

    /** "of those who sit .. how many they are": members ashore are not of them. */
    private static void howManyTheyAre() {
        for (int rows = 2; rows <= 4; rows++) {
            for (int members = 2 * rows; members <= 8; members++) {
                DrumBoats x = new DrumBoats();
                x.crew(rows, 0);
                Make.paddlers(x, members);
                Make.join(x, 0, 0, members);
                x.seat(0);
                keeps(x, "crew=" + 2 * rows, 1);
                keeps(x, "men=" + 2 * rows, 1);
                keeps(x, "weight=" + 100 * rows, 1);
            }
        }
    }

    /** The numbers 0, 9999 and those with zeros ahead, at each sign. */
    private static void numbersOfATest() {
        DrumBoats x = ages(20, 20, 20, 20);
        keeps(x, "women=0 and women<1 and not women>0 and not women<0 and women=0000", 1);
        keeps(x, "crew<9999 and not crew>9999 and not crew=9999 and crew=0004 and crew=04", 1);
        keeps(x, "crew<5 and crew>3 and not crew<4 and not crew>4", 1);
        keeps(x, "not crew=4", 0);
        keeps(x, "crew=40", 0);
    }

    /** "and binds closer than or". */
    private static void andBindsCloser() {
        String[] tests = {"men=3", "men=4"};
        for (int bits = 0; bits < 8; bits++) {
            boolean a = (bits & 4) != 0;
            boolean b = (bits & 2) != 0;
            boolean c = (bits & 1) != 0;
            String ta = tests[bits >> 2 & 1];
            String tb = tests[bits >> 1 & 1];
            String tc = tests[bits & 1];
            DrumBoats x = ages(20, 20, 20, 20);
            keeps(x, ta + " or " + tb + " and " + tc, a || b && c ? 1 : 0);
            keeps(x, ta + " and " + tb + " or " + tc, a && b || c ? 1 : 0);
            keeps(x, ta + " or " + tb + " or " + tc, a || b || c ? 1 : 0);
            keeps(x, ta + " and " + tb + " and " + tc, a && b && c ? 1 : 0);
            keeps(x, "not " + ta + " and " + tb + " or not " + tc, !a && b || !c ? 1 : 0);
        }
        // The eighth test counts, behind or and behind and.
        DrumBoats y = ages(20, 20, 20, 20);
        keeps(y, tests(7, " or ") + " or men=4", 1);
        keeps(y, tests(7, " or ") + " or men=5", 0);
        String seven = tests(7, " and ").replace("=1", "=4");
        keeps(y, seven + " and men=4", 1);
        keeps(y, seven + " and men=5", 0);
    }

    /** "Whether a SEATED CREW keeps a RULE .. STATE: it is not SEATED." */
    private static void keepsOfSeatedCrewsOnly() {
        DrumBoats x = Make.crews(1);
        Make.paddlers(x, 5);
        Check.ruleOf(x, "crew=4");
        Check.due("no members", x.keeps(0, 0), Make.STATE);
        Make.join(x, 0, 0, 4);
        Check.due("not sought", x.keeps(0, 0), Make.STATE);
        x.seat(0);
        Check.due("seated", x.keeps(0, 0), 1);
        x.join(0, 3);
        Check.due("a refused member", x.keeps(0, 0), 1);
        x.join(0, 4);
        Check.due("a member more", x.keeps(0, 0), Make.STATE);
        Check.due("no rule of one not seated", x.keeps(0, 1), Make.NONE);
        x.seat(0);
        Check.due("seated again", x.keeps(0, 0), 1);
    }

    /** "NONE" of keeps: crews and rules from 0 to the last. */
    private static void keepsKnowsCrewsAndRules() {
        DrumBoats x = ages(20, 20, 20, 20);
        Check.ruleOf(x, "crew=4");
        Check.ruleOf(x, "crew=5");
        Check.ruleOf(x, "crew=6");
        Make.range("rule", 0, 2, Make.NONE, n -> x.keeps(0, n));
        Make.range("crew", 0, 0, Make.NONE, n -> x.keeps(n, 0));
    }
}
