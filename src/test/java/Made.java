/** States in which calls are refused: with some of everything, so that what a refused call changed would be seen. */
final class Made {
    /** What is there in loose and in widened. */
    static final int LABELS = 6, NEXT_PLACE = 11, INT = 1, LONG = 2, DOUBLE = 4, TEXT = 6, EMPTY_TEXT = 7;
    static final int NAME = 8, PAIR = 9, MEMBER = 10, LAST_KEY = 8, PUT_LABEL = 2;

    private Made() {
    }

    static void nothing(Asked a) {
    }

    /** Some of everything; label 3 is used and not put, so that the code is not widened and cannot be. */
    static void loose(Asked a) {
        some(a);
        a.unit(4, 3, 0);
    }

    /** Some of everything, widened; labels 3 to 5 are not put. */
    static void widened(Asked a) {
        some(a);
        a.widen();
    }

    private static void some(Asked a) {
        int[] limits = {700, 90, 9000, 60, 500, 30};
        for (int what = 0; what < limits.length; what++) {
            a.limit(what, limits[what]);
        }
        a.number(0, 7);
        a.number(1, 7);
        a.number(2, 7);
        a.textOf(97, 2048);
        a.text();
        a.link(4, TEXT, 0);
        a.link(5, TEXT, EMPTY_TEXT);
        a.link(6, NAME, PAIR);
        a.labels(LABELS);
        a.put(0);
        a.unit(0, 70, 9);
        a.unit(1, INT, 0);
        a.unit(2, 300, 0);
        a.unit(3, 5, -3);
        a.unit(4, 1, 0);
        a.unit(5, 2, 0);
        a.key(4, 0);
        a.key(6, 1);
        a.choice(1);
        a.put(1);
        a.unit(2, 3, 0);
        a.put(PUT_LABEL);
        a.member(true, 2, 3);
        a.member(false, 0, 1);
        a.key(-5, 0);
        a.key(LAST_KEY, 1);
        a.sign(98);
        a.sign(99);
    }

    /** 400 constants: texts at 1 and 2, a name of 1, a pair of both, and 396 ints; a row that is no text yet. */
    static void fullPool(Asked a) {
        a.textOf(97);
        a.text();
        a.link(4, 1, 0);
        a.link(5, 1, 2);
        for (int i = 0; i < 396; i++) {
            a.number(0, i);
        }
        a.sign(98);
        a.label();
        a.put(0);
        a.unit(4, 0, 0);
        a.widen();
    }

    /** 60 signs in the row. */
    static void fullRow(Asked a) {
        a.textOf(97);
        for (int i = 0; i < 60; i++) {
            a.sign(i * 1000);
        }
    }

    /** 150 units, widened, with a label that is not used and not put, and keys that wait. */
    static void fullCode(Asked a) {
        a.number(0, 7);
        a.labels(3);
        a.put(0);
        for (int i = 0; i < 149; i++) {
            a.unit(0, 1, i);
        }
        a.unit(4, 0, 0);
        a.put(1);
        a.key(3, 0);
        a.key(9, 2);
        a.widen();
    }

    /** 40 labels, the first and the last one put. */
    static void fullLabels(Asked a) {
        a.labels(40);
        a.put(0);
        a.unit(5, 1, 39);
        a.put(39);
        a.widen();
    }

    /** 20 keys that wait, of 2, 4 .. 40. */
    static void fullKeys(Asked a) {
        a.labels(3);
        a.put(0);
        a.unit(4, 0, 0);
        a.put(1);
        for (int i = 1; i <= 20; i++) {
            a.key(2 * i, i % 2);
        }
        a.widen();
    }

    /** 20 members with 1 .. 20 places. */
    static void fullMembers(Asked a) {
        a.unit(0, 1, 0);
        for (int i = 1; i <= 20; i++) {
            a.member(true, i, 0);
        }
        a.widen();
    }
}
