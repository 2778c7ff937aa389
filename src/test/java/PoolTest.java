/** Promises 5 to 8: number, text, link, told. */
public final class PoolTest {
    public static void main(String[] args) {
        Due due = new Due("PoolTest");
        numbers(due);
        doubles(due);
        texts(due);
        links(due);
        badLinks(due);
        told(due);
        fullOfNumbers(due);
        fullForTextsAndLinks(due);
        due.end();
    }

    private static void numbers(Due due) {
        SizeForms forms = new SizeForms();
        due.same("an int", forms.number(0, -1), 1);
        due.same("its lowest 32 bits", forms.number(0, 0xffffffffL), 1);
        due.same("other high bits", forms.number(0, 0x12345678ffffffffL), 1);
        due.same("a long of the same value", forms.number(1, -1), 2);
        due.same("a long by all its bits", forms.number(1, 0xffffffffL), 4);
        due.same("a double of the same bits", forms.number(2, 0xffffffffL), 6);
        due.same("another int", forms.number(0, Integer.MIN_VALUE), 8);
        due.same("the long again", forms.number(1, -1), 2);
        for (int sort : new int[] {-1, 3, 4, 5, 6, 7, Integer.MIN_VALUE, Integer.MAX_VALUE}) {
            due.same("number of sort " + sort, forms.number(sort, 5), SizeForms.BAD);
        }
        due.same("how many", forms.count(0), 5);
        due.same("the next place", forms.count(1), 9);
    }

    private static void doubles(Due due) {
        SizeForms forms = new SizeForms();
        due.same("NaN", forms.number(2, Double.doubleToLongBits(Double.NaN)), 1);
        due.same("the least NaN", forms.number(2, 0x7ff0000000000001L), 1);
        due.same("the greatest NaN", forms.number(2, 0x7fffffffffffffffL), 1);
        due.same("a NaN below 0", forms.number(2, 0xfff0000000000001L), 1);
        due.same("all bits", forms.number(2, -1L), 1);
        due.same("infinity", forms.number(2, Double.doubleToLongBits(Double.POSITIVE_INFINITY)), 3);
        due.same("infinity below 0", forms.number(2, Double.doubleToLongBits(Double.NEGATIVE_INFINITY)), 5);
        due.same("0", forms.number(2, Double.doubleToLongBits(0.0)), 7);
        due.same("0 below 0", forms.number(2, Double.doubleToLongBits(-0.0)), 9);
        due.same("a long of NaN's bits", forms.number(1, 0x7ff0000000000001L), 11);
        due.same("a long of other NaN's bits", forms.number(1, 0x7ff0000000000002L), 13);
    }

    private static void texts(Due due) {
        SizeForms forms = new SizeForms();
        due.same("an empty text", forms.text(), 1);
        due.same("its bytes", forms.told(1, 1), 3);
        int[] signs = {0, 1, 127, 128, 2047, 2048, 65535};
        int[] bytes = {2, 1, 1, 2, 2, 3, 3};
        for (int i = 0; i < signs.length; i++) {
            due.same("a text of " + signs[i], Due.text(forms, signs[i]), i + 2);
            due.same("its bytes", forms.told(i + 2, 1), 3 + bytes[i]);
        }
        due.same("a text of all", Due.text(forms, signs), 9);
        due.same("its bytes", forms.told(9, 1), 17);
        due.same("the row is empty then", forms.count(6), 0);
        due.same("a longer one", Due.text(forms, 1, 127), 10);
        due.same("in the other order", Due.text(forms, 127, 1), 11);
        forms.sign(1);
        forms.sign(127);
        due.same("it again", forms.text(), 10);
        due.same("the row is empty then, too", forms.count(6), 0);
        due.same("the empty one again", forms.text(), 1);
        due.same("how many", forms.count(0), 11);
    }

    private static void links(Due due) {
        SizeForms forms = new SizeForms();
        due.same("text a", Due.text(forms, 97), 1);
        due.same("text b", Due.text(forms, 98), 2);
        due.same("name of a", forms.link(4, 1, 0), 3);
        due.same("name of a, another b", forms.link(4, 1, 2), 3);
        due.same("name of a, a wild b", forms.link(4, 1, Integer.MIN_VALUE), 3);
        due.same("name of b", forms.link(4, 2, 1), 4);
        due.same("pair a b", forms.link(5, 1, 2), 5);
        due.same("pair b a", forms.link(5, 2, 1), 6);
        due.same("pair a a", forms.link(5, 1, 1), 7);
        due.same("pair a b again", forms.link(5, 1, 2), 5);
        due.same("member", forms.link(6, 3, 5), 8);
        due.same("member of another name", forms.link(6, 4, 5), 9);
        due.same("member of another pair", forms.link(6, 3, 6), 10);
        due.same("member again", forms.link(6, 3, 5), 8);
        due.same("how many", forms.count(0), 10);
    }

    private static void badLinks(Due due) {
        SizeForms forms = new SizeForms();
        Due.text(forms, 97);
        forms.link(4, 1, 0);
        forms.link(5, 1, 1);
        forms.number(1, 0);
        forms.link(6, 2, 3);
        int[][] calls = {
            {-1, 1, 1}, {0, 1, 1}, {1, 1, 1}, {2, 1, 1}, {3, 1, 1}, {7, 1, 1}, {Integer.MAX_VALUE, 1, 1},
            {4, 0, 0}, {4, -1, 0}, {4, 2, 0}, {4, 3, 0}, {4, 4, 0}, {4, 5, 0}, {4, 6, 0}, {4, 7, 0},
            {4, Integer.MIN_VALUE, 0}, {4, Integer.MAX_VALUE, 0},
            {5, 1, 0}, {5, 0, 1}, {5, 1, 2}, {5, 2, 1}, {5, 3, 1}, {5, 1, 4}, {5, 1, 5}, {5, 1, 7},
            {6, 3, 2}, {6, 1, 3}, {6, 2, 1}, {6, 2, 2}, {6, 3, 3}, {6, 2, 6}, {6, 2, 7}, {6, 0, 3}, {6, 2, -1}
        };
        for (int[] call : calls) {
            due.same("link(" + call[0] + ", " + call[1] + ", " + call[2] + ")",
                    forms.link(call[0], call[1], call[2]), SizeForms.BAD);
        }
        due.same("nothing came", forms.count(0), 5);
    }

    private static void told(Due due) {
        SizeForms forms = new SizeForms();
        forms.number(0, 9);
        forms.number(1, 0x0000000500000006L);
        forms.number(2, 9);
        Due.text(forms, 97, 98);
        Due.text(forms);
        forms.link(4, 6, 0);
        forms.link(5, 7, 6);
        forms.link(6, 8, 9);
        int[][] rows = {
            {1, 0, 5, -1, -1}, {2, 1, 9, -1, -1}, {4, 2, 9, -1, -1}, {6, 3, 5, -1, -1}, {7, 3, 3, -1, -1},
            {8, 4, 3, 6, -1}, {9, 5, 5, 7, 6}, {10, 6, 5, 8, 9}
        };
        for (int[] row : rows) {
            for (int what = 0; what < 4; what++) {
                due.same("told(" + row[0] + ", " + what + ")", forms.told(row[0], what), row[what + 1]);
            }
            due.same("told below", forms.told(row[0], -1), SizeForms.BAD);
            due.same("told above", forms.told(row[0], 4), SizeForms.BAD);
        }
        for (int place : new int[] {0, 3, 5, 11, -1, Integer.MIN_VALUE, Integer.MAX_VALUE}) {
            due.same("told(" + place + ", 0)", forms.told(place, 0), SizeForms.NONE);
            due.same("told(" + place + ", 3)", forms.told(place, 3), SizeForms.NONE);
            due.same("told(" + place + ", 4)", forms.told(place, 4), SizeForms.BAD);
        }
    }

    private static void fullOfNumbers(Due due) {
        SizeForms forms = new SizeForms();
        for (int i = 0; i < 400; i++) {
            due.same("long " + i, forms.number(1, i), 1 + 2 * i);
        }
        due.same("one more", forms.number(1, 400), SizeForms.FULL);
        due.same("an int more", forms.number(0, 5), SizeForms.FULL);
        due.same("a bad sort", forms.number(3, 5), SizeForms.BAD);
        due.same("the first again", forms.number(1, 0), 1);
        due.same("the last again", forms.number(1, 399), 799);
        due.same("how many", forms.count(0), 400);
        due.same("the next place", forms.count(1), 801);
        due.same("all bytes", forms.count(2), 3600);
    }

    private static void fullForTextsAndLinks(Due due) {
        SizeForms forms = new SizeForms();
        Due.text(forms, 97);
        forms.link(4, 1, 0);
        for (int i = 0; i < 398; i++) {
            forms.number(0, i);
        }
        forms.sign(98);
        due.same("a text more", forms.text(), SizeForms.FULL);
        due.same("its row stays", forms.wipe(), 1);
        due.same("a text that is there", Due.text(forms, 97), 1);
        due.same("its row is empty", forms.wipe(), 0);
        due.same("a pair more", forms.link(5, 1, 1), SizeForms.FULL);
        due.same("a bad pair", forms.link(5, 1, 2), SizeForms.BAD);
        due.same("a name that is there", forms.link(4, 1, 9), 2);
    }
}
