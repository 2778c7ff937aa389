/**
 * The boundary cases of a new object, limits, members, the first bound and counts (promises 1, 2, 17 to 19), one test
 * for each sentence that names one.
 */
public final class BoundEdgesTest {
    private static final int NONE = SizeForms.NONE, BAD = SizeForms.BAD, FULL = SizeForms.FULL, NOT = SizeForms.NOT;
    private static final int LOW = Integer.MIN_VALUE, HIGH = Integer.MAX_VALUE;
    private static final int[] LEAST = {1, 0, 0, 1, 0, 0};
    private static final int[] GREATEST = {65535, 65535, 65535, 32767, 65535, 255};

    private final Due due = new Due("BoundEdgesTest");

    public static void main(String[] args) {
        BoundEdgesTest test = new BoundEdgesTest();
        test.nothingIsThere();
        test.greatestAtFirst();
        test.rangesOfLimits();
        test.suchLimit();
        test.localsOfNone();
        test.localsByTheGreatest();
        test.twentyMembers();
        test.parametersFromTo();
        test.placesOfParameters();
        test.oneMoreIfNotAlone();
        test.boundOfPlaces();
        test.boundOfTexts();
        test.firstTextByPlaces();
        test.boundOfLabels();
        test.boundOfNoByte();
        test.boundOfBytes();
        test.boundOfBytesWhenWidened();
        test.boundOfLocals();
        test.boundOfMembers();
        test.firstMember();
        test.inThisOrder();
        test.checkWhat();
        test.checkWidensThen();
        test.countWhat();
        test.countsAtTheirMost();
        test.countOfBytesOfCode();
        test.due.end();
    }

    private void nothingIsThere() {
        Asked a = new Asked(due, "Nothing is there.");
        int[] counts = {0, 1, 0, 0, 0, 0, 0, 0, NOT, 0};
        for (int what = 0; what < counts.length; what++) {
            a.is(a.count(what), counts[what]);
        }
        a.is(a.told(0, 0), NONE);
        a.is(a.told(1, 0), NONE);
        a.is(a.put(0), BAD);
        a.is(a.key(0, 0), BAD);
        a.is(a.choice(0), BAD);
        a.is(a.of(0, 0), BAD);
        a.is(a.out(0), Due.ILLEGAL_STATE);
        a.is(a.wipe(), 0);
        a.is(a.check(0), 4);
        a.is(a.check(1), 0);
        a.is(a.number(0, 0), 1);
        a.is(a.label(), 0);
        a.is(a.put(0), 0);
        a.is(a.unit(0, 1, 0), 0);
        a.is(a.sign(0), 1);
        a.is(a.key(LOW, 0), 1);
        a.is(a.member(true, 0, 0), 0);
    }

    private void greatestAtFirst() {
        for (int what = 0; what < 6; what++) {
            Asked a = new Asked(due, "each is the greatest that it may be at first");
            a.is(a.limit(what, GREATEST[what]), GREATEST[what]);
        }
    }

    private void rangesOfLimits() {
        for (int i = 0; i < 6; i++) {
            int what = i;
            String sentence = "LIMITS: " + what + ": " + LEAST[what] + " .. " + GREATEST[what] + "; what it was. BAD.";
            for (int v : new int[] {LOW, LEAST[what] - 1, GREATEST[what] + 1, HIGH}) {
                Twins.unchanged(due, sentence, a -> a.limit(what, v), BAD);
            }
            Asked a = new Asked(due, sentence);
            a.is(a.limit(what, LEAST[what]), GREATEST[what]);
            a.is(a.limit(what, LEAST[what] - 1), BAD);
            a.is(a.limit(what, LEAST[what] + 1), LEAST[what]);
            a.is(a.limit(what, GREATEST[what] - 1), LEAST[what] + 1);
            a.is(a.limit(what, GREATEST[what]), GREATEST[what] - 1);
            a.is(a.limit(what, GREATEST[what] + 1), BAD);
            a.is(a.limit(what, 9), GREATEST[what]);
            for (int other = 0; other < 6; other++) {
                a.is(a.limit(other, GREATEST[other]), other == what ? 9 : GREATEST[other]);
            }
        }
    }

    private void suchLimit() {
        for (int what : new int[] {LOW, -1, 6, HIGH}) {
            Twins.unchanged(due, "limit: BAD: there are LIMITS 0 to 5", a -> a.limit(what, 1), BAD);
        }
        Asked a = new Asked(due, "limit: BAD: there are LIMITS 0 to 5");
        a.is(a.limit(0, 1), 65535);
        a.is(a.limit(5, 1), 255);
    }

    private void localsOfNone() {
        Asked a = new Asked(due, "LOCALS: 0, or one more than the greatest k: 0");
        a.number(0, 900);
        a.label();
        a.put(0);
        a.is(a.count(9), 0);
        a.unit(0, 200, 255);
        a.unit(1, 1, 900);
        a.unit(4, 0, 900);
        a.unit(5, 5, 0);
        a.key(900, 0);
        a.choice(0);
        a.is(a.count(9), 0);
        a.is(a.limit(4, 0), 65535);
        a.is(a.check(0), 0);
    }

    private void localsByTheGreatest() {
        for (int sort : new int[] {2, 3}) {
            Asked a = new Asked(due, "LOCALS: one more than the greatest k: of sort " + sort);
            a.is(a.unit(sort, 0, 900), 0);
            a.is(a.count(9), 1);
            a.unit(sort, 255, 900);
            a.is(a.count(9), 256);
            a.unit(sort, 256, 900);
            a.is(a.count(9), 257);
            a.unit(sort, 255, 900);
            a.is(a.count(9), 257);
            a.unit(5 - sort, 0, 0);
            a.is(a.count(9), 257);
            a.unit(sort, 65535, 900);
            a.is(a.count(9), 65536);
            a.unit(sort, 0, 900);
            a.is(a.count(9), 65536);
        }
    }

    private void twentyMembers() {
        String sentence = "MEMBERS, 20 at most; its number; FULL";
        Twins.unchanged(due, sentence, Made::fullMembers, a -> a.member(true, 0, 0), FULL);
        Twins.unchanged(due, sentence, Made::fullMembers, a -> a.member(false, 300, 300), FULL);
        Twins.unchanged(due, "a MEMBER that is BAD behind 20", Made::fullMembers, a -> a.member(true, -1, 0), BAD);
        Twins.unchanged(due, "a MEMBER that is BAD behind 20", Made::fullMembers, a -> a.member(true, 0, 301), BAD);
        Asked a = new Asked(due, sentence);
        for (int i = 0; i < 20; i++) {
            a.is(a.member(i % 2 == 0, 0, 0), i);
            a.is(a.count(5), i + 1);
        }
        a.is(a.member(true, 0, 0), FULL);
        a.is(a.count(5), 20);
    }

    private void parametersFromTo() {
        String sentence = "member: BAD: below 0, above 300";
        for (int bad : new int[] {LOW, -1, 301, HIGH}) {
            Twins.unchanged(due, sentence, a -> a.member(true, bad, 0), BAD);
            Twins.unchanged(due, sentence, a -> a.member(false, 300, bad), BAD);
            Twins.unchanged(due, sentence, a -> a.member(false, bad, bad), BAD);
        }
        Asked a = new Asked(due, sentence);
        a.is(a.member(true, 0, 0), 0);
        a.is(a.member(true, 300, 0), 1);
        a.is(a.member(false, 0, 300), 2);
        a.is(a.member(false, 300, 300), 3);
    }

    /** So many places are taken: as many are not too many, one fewer are. */
    private void placesAre(String sentence, boolean alone, int single, int twice, int places) {
        Asked a = new Asked(due, sentence + ": " + places);
        a.unit(0, 1, 0);
        a.is(a.member(alone, single, twice), 0);
        if (places <= 255) {
            a.limit(5, places);
            a.is(a.check(0), 0);
            a.is(a.check(1), 0);
        }
        if (places > 0) {
            a.limit(5, Math.min(255, places - 1));
            a.is(a.check(0), 6);
            a.is(a.check(1), 0);
        }
    }

    private void placesOfParameters() {
        String sentence = "LONGS, DOUBLES take two PLACES, others one";
        placesAre(sentence, true, 0, 0, 0);
        placesAre(sentence, true, 1, 0, 1);
        placesAre(sentence, true, 0, 1, 2);
        placesAre(sentence, true, 255, 0, 255);
        placesAre(sentence, true, 256, 0, 256);
        placesAre(sentence, true, 1, 127, 255);
        placesAre(sentence, true, 0, 128, 256);
        placesAre(sentence, true, 300, 300, 900);
    }

    private void oneMoreIfNotAlone() {
        String sentence = "and one more if they are not ALONE";
        placesAre(sentence, false, 0, 0, 1);
        placesAre(sentence, false, 1, 0, 2);
        placesAre(sentence, false, 0, 1, 3);
        placesAre(sentence, false, 254, 0, 255);
        placesAre(sentence, false, 255, 0, 256);
        placesAre(sentence, false, 0, 127, 255);
        placesAre(sentence, false, 1, 127, 256);
    }

    private static void bound(Asked a, int bound, int of) {
        a.is(a.check(0), bound);
        a.is(a.check(1), of);
    }

    private void boundOfPlaces() {
        Asked a = new Asked(due, "1 the POOL's next PLACE, less 1, is above PLACES: how many there are");
        a.unit(0, 1, 0);
        a.limit(0, 1);
        bound(a, 0, 0);
        a.number(0, 1);
        bound(a, 0, 0);
        a.number(0, 2);
        bound(a, 1, 2);
        a.limit(0, 2);
        bound(a, 0, 0);
        a.number(1, 1);
        bound(a, 1, 4);
        a.limit(0, 3);
        bound(a, 1, 4);
        a.limit(0, 4);
        bound(a, 0, 0);
    }

    private void boundOfTexts() {
        Asked a = new Asked(due, "2 a TEXT (by PLACES) is too long: bytes of SIGNS of a TEXT: the PLACE");
        a.unit(0, 1, 0);
        a.limit(1, 0);
        a.number(1, 0);
        a.text();
        a.link(4, 3, 0);
        a.link(5, 3, 3);
        a.link(6, 4, 5);
        a.number(2, 0);
        bound(a, 0, 0);
        a.sign(1);
        bound(a, 0, 0);
        a.is(a.text(), 9);
        bound(a, 2, 9);
        a.limit(1, 1);
        bound(a, 0, 0);
        for (int i = 0; i < 60; i++) {
            a.sign(65535);
        }
        a.is(a.text(), 10);
        a.limit(1, 179);
        bound(a, 2, 10);
        a.limit(1, 180);
        bound(a, 0, 0);
        a.limit(1, 65535);
        bound(a, 0, 0);
    }

    private void firstTextByPlaces() {
        Asked a = new Asked(due, "2 a TEXT (by PLACES): the first one that is too long, not the longest");
        a.unit(0, 1, 0);
        a.textOf(1);
        a.textOf(1, 1);
        a.textOf(0, 0, 0);
        a.textOf(1, 1, 1);
        a.limit(1, 0);
        bound(a, 2, 1);
        a.limit(1, 1);
        bound(a, 2, 2);
        a.limit(1, 2);
        bound(a, 2, 3);
        a.limit(1, 5);
        bound(a, 2, 3);
        a.limit(1, 6);
        bound(a, 0, 0);
    }

    private void boundOfLabels() {
        Asked a = new Asked(due, "3 a LABEL that is used is not PUT (the least one): the LABEL");
        a.labels(40);
        a.unit(4, 39, 0);
        bound(a, 3, 39);
        a.unit(5, 0, 20);
        bound(a, 3, 20);
        a.key(1, 10);
        bound(a, 3, 20);
        a.choice(15);
        bound(a, 3, 10);
        a.put(10);
        bound(a, 3, 15);
        a.unit(4, 0, 0);
        bound(a, 3, 0);
        a.put(0);
        a.put(15);
        bound(a, 3, 20);
        a.put(20);
        bound(a, 3, 39);
        a.put(39);
        bound(a, 0, 0);
    }

    private void boundOfNoByte() {
        Asked a = new Asked(due, "4 CODE has no byte");
        bound(a, 4, 0);
        a.limit(2, 0);
        bound(a, 4, 0);
        a.limit(2, 65535);
        a.label();
        a.put(0);
        bound(a, 4, 0);
        a.unit(2, 0, 0);
        bound(a, 0, 0);
    }

    private void boundOfBytes() {
        Asked a = new Asked(due, "4 CODE has too many bytes: how many there are");
        a.unit(2, 0, 0);
        bound(a, 0, 0);
        a.limit(2, 0);
        bound(a, 4, 1);
        a.limit(2, 1);
        bound(a, 0, 0);
        for (int i = 0; i < 149; i++) {
            a.unit(0, 200, 0);
        }
        bound(a, 4, 29801);
        a.limit(2, 29800);
        bound(a, 4, 29801);
        a.limit(2, 29801);
        bound(a, 0, 0);
        a.limit(2, 65535);
        bound(a, 0, 0);
    }

    private void boundOfBytesWhenWidened() {
        Asked a = new Asked(due, "4 CODE, WIDENED, has too many bytes");
        a.limit(3, 22);
        a.limit(2, 23);
        a.label();
        a.unit(4, 0, 0);
        a.unit(0, 20, 0);
        a.put(0);
        bound(a, 4, 25);
        a.limit(2, 24);
        bound(a, 4, 25);
        a.limit(2, 25);
        bound(a, 0, 0);
        a.limit(2, 23);
        a.limit(3, 23);
        bound(a, 0, 0);
        a.limit(2, 22);
        bound(a, 4, 23);
    }

    private void boundOfLocals() {
        Asked a = new Asked(due, "5 LOCALS: how many there are");
        a.limit(4, 0);
        a.unit(0, 1, 0);
        bound(a, 0, 0);
        a.unit(3, 0, 0);
        bound(a, 5, 1);
        a.limit(4, 1);
        bound(a, 0, 0);
        a.unit(2, 65534, 0);
        bound(a, 5, 65535);
        a.limit(4, 65534);
        bound(a, 5, 65535);
        a.limit(4, 65535);
        bound(a, 0, 0);
        a.unit(2, 65535, 0);
        bound(a, 5, 65536);
    }

    private void boundOfMembers() {
        Asked a = new Asked(due, "6 a MEMBER with too many PLACES");
        a.unit(0, 1, 0);
        a.limit(5, 0);
        bound(a, 0, 0);
        a.member(true, 0, 0);
        bound(a, 0, 0);
        a.member(false, 0, 0);
        bound(a, 6, 1);
        a.limit(5, 1);
        bound(a, 0, 0);
        a.limit(5, 255);
        a.member(true, 255, 0);
        bound(a, 0, 0);
        a.member(false, 255, 0);
        bound(a, 6, 3);
    }

    private void firstMember() {
        Asked a = new Asked(due, "6 a MEMBER with too many PLACES (the first one): the MEMBER");
        a.unit(0, 1, 0);
        for (int i = 0; i < 20; i++) {
            a.member(true, i, 0);
        }
        for (int places = 0; places < 19; places++) {
            a.limit(5, places);
            bound(a, 6, places + 1);
        }
        a.limit(5, 19);
        bound(a, 0, 0);

        Asked first = new Asked(due, "6 a MEMBER with too many PLACES (the first one): member 0");
        first.unit(0, 1, 0);
        first.member(true, 300, 300);
        first.member(true, 300, 300);
        bound(first, 6, 0);
    }

    /** Every set of bounds that are broken together: the first one of them is told. */
    private void inThisOrder() {
        int[] of = {0, 3, 2, 1, 7, 4, 1};
        for (int broken = 0; broken < 64; broken++) {
            Asked a = new Asked(due, "THE FIRST BOUND, in this order: broken are " + Integer.toBinaryString(broken));
            a.number(0, 1);
            a.textOf(97, 98);
            a.text();
            a.labels(3);
            a.unit(2, 3, 0);
            a.unit(4, 1, 0);
            a.unit(4, 2, 0);
            a.put(2);
            a.member(true, 0, 0);
            a.member(false, 1, 1);
            a.limit(0, isIn(broken, 1) ? 2 : 3);
            a.limit(1, isIn(broken, 2) ? 1 : 2);
            if (!isIn(broken, 3)) {
                a.put(1);
            }
            a.limit(2, isIn(broken, 4) ? 6 : 7);
            a.limit(4, isIn(broken, 5) ? 3 : 4);
            a.limit(5, isIn(broken, 6) ? 3 : 4);
            int first = broken == 0 ? 0 : Integer.numberOfTrailingZeros(broken) + 1;
            a.is(a.check(0), first);
            a.is(a.check(1), of[first]);
            a.is(a.count(8), first >= 1 && first <= 3 ? NOT : 7);
        }
    }

    private static boolean isIn(int broken, int bound) {
        return (broken >> (bound - 1) & 1) == 1;
    }

    private void checkWhat() {
        for (int what : new int[] {LOW, -1, 2, HIGH}) {
            Twins.unchanged(due, "check: BAD", a -> a.check(what), BAD);
            Twins.unchanged(due, "check: BAD: it does not widen then", BoundEdgesTest::couldBeWidened,
                    a -> a.check(what), BAD);
        }
        Asked a = new Asked(due, "check: what = 0, 1");
        a.number(1, 1);
        a.limit(0, 1);
        a.is(a.check(0), 1);
        a.is(a.check(1), 2);
        a.is(a.check(2), BAD);
        a.is(a.check(-1), BAD);
    }

    private static void couldBeWidened(Asked a) {
        a.label();
        a.unit(4, 0, 0);
        a.unit(2, 0, 0);
        a.put(0);
    }

    private void checkWidensThen() {
        for (int what = 0; what <= 1; what++) {
            Asked a = new Asked(due, "4 CODE, WIDENED (which is done then)");
            couldBeWidened(a);
            a.is(a.count(8), NOT);
            a.is(a.check(what), 0);
            a.is(a.count(8), 4);
            a.is(a.of(1, 0), 3);
            a.is(a.out(3), 26);
        }
        Asked first = new Asked(due, "4 CODE, WIDENED (which is done then): not ahead of it");
        couldBeWidened(first);
        first.number(1, 1);
        first.limit(0, 1);
        bound(first, 1, 2);
        first.is(first.count(8), NOT);
        first.limit(0, 2);
        bound(first, 0, 0);
        first.is(first.count(8), 4);
    }

    private void countWhat() {
        for (int what : new int[] {LOW, -1, 10, HIGH}) {
            Twins.unchanged(due, "count: BAD", a -> a.count(what), BAD);
        }
        int[] loose = {8, 11, 46, 9, 6, 2, 2, 2, NOT, 301};
        for (int i = 0; i < loose.length; i++) {
            int what = i;
            Twins.unchanged(due, "count: what = 0 .. 9", Made::loose, a -> a.count(what), loose[what]);
        }
    }

    private void countsAtTheirMost() {
        Asked pool = new Asked(due, "count: CONSTANTS, next PLACE, BYTES of as many LONGS as there may be");
        for (int i = 0; i < 400; i++) {
            pool.number(1, i);
        }
        pool.is(pool.number(1, 400), FULL);
        pool.is(pool.count(0), 400);
        pool.is(pool.count(1), 801);
        pool.is(pool.count(2), 3600);

        Asked all = new Asked(due, "count: UNITS, LABELS, MEMBERS, SIGNS, THE KEYS, LOCALS at their most");
        all.labels(41);
        for (int i = 0; i <= 150; i++) {
            all.unit(2, 65385 + i, 0);
        }
        for (int i = 0; i <= 20; i++) {
            all.member(true, 0, 0);
            all.key(i, 0);
        }
        for (int i = 0; i <= 60; i++) {
            all.sign(0);
        }
        int[] most = {0, 1, 0, 150, 40, 20, 60, 20, NOT, 65535};
        for (int what = 0; what < most.length; what++) {
            all.is(all.count(what), most[what]);
        }
    }

    private void countOfBytesOfCode() {
        String sentence = "bytes of CODE (8; NOT, if it is not WIDENED)";
        Twins.unchanged(due, sentence, Made::nothing, a -> a.count(8), NOT);
        Twins.unchanged(due, sentence, Made::loose, a -> a.count(8), NOT);
        Twins.unchanged(due, sentence, Made::fullCode, a -> a.count(8), 152);
        Asked a = new Asked(due, sentence);
        a.is(a.widen(), 1);
        a.is(a.count(8), 0);
        for (int i = 0; i < 150; i++) {
            a.unit(0, 200, 0);
        }
        a.is(a.count(8), NOT);
        a.is(a.widen(), 1);
        a.is(a.count(8), 30000);
    }
}
