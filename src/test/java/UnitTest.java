/** Promise 11: unit; with the bytes of each sort. */
public final class UnitTest {
    public static void main(String[] args) {
        Due due = new Due("UnitTest");
        badUnits(due);
        edges(due);
        full(due);
        loads(due);
        takes(due);
        raises(due);
        plains(due);
        whatUndoesWidening(due);
        due.end();
    }

    /** An int at 1, a long at 2, a double at 4, a text at 6, a name at 7; labels 0 and 1. */
    private static SizeForms prepared() {
        SizeForms forms = new SizeForms();
        forms.number(0, 1);
        forms.number(1, 1);
        forms.number(2, 1);
        forms.text();
        forms.link(4, 6, 0);
        Due.labels(forms, 2);
        return forms;
    }

    private static void badUnits(Due due) {
        SizeForms forms = prepared();
        int low = Integer.MIN_VALUE, high = Integer.MAX_VALUE;
        int[][] calls = {
            {-1, 1, 1}, {6, 0, 0}, {7, 1, 1}, {low, 1, 1}, {high, 1, 1},
            {0, 0, 5}, {0, 201, 5}, {0, -1, 5}, {0, low, 5}, {0, high, 5},
            {0, 1, -1}, {0, 1, 256}, {0, 1, low}, {0, 1, high},
            {1, 0, 0}, {1, 3, 0}, {1, 5, 0}, {1, 6, 0}, {1, 7, 0}, {1, 8, 0}, {1, -1, 0}, {1, low, 0}, {1, high, 0},
            {2, -1, 0}, {2, 65536, 0}, {2, low, 0}, {2, high, 0},
            {3, -1, 0}, {3, 65536, 0}, {3, 0, -32769}, {3, 0, 32768}, {3, low, 0}, {3, 0, high}, {3, 0, low},
            {4, -1, 0}, {4, 2, 0}, {4, low, 0}, {4, high, 0},
            {5, -1, 0}, {5, 6, 0}, {5, 0, -1}, {5, 0, 2}, {5, low, 0}, {5, 0, high}, {5, high, 0}
        };
        for (int[] call : calls) {
            due.same("unit(" + call[0] + ", " + call[1] + ", " + call[2] + ")",
                    forms.unit(call[0], call[1], call[2]), SizeForms.BAD);
        }
        due.same("none came", forms.count(3), 0);
        due.same("no locals", forms.count(9), 0);
        due.same("no label is used", forms.widen(), 1);
    }

    private static void edges(Due due) {
        SizeForms forms = prepared();
        int low = Integer.MIN_VALUE, high = Integer.MAX_VALUE;
        int[][] calls = {
            {0, 1, 0}, {0, 200, 255}, {1, 1, low}, {1, 2, high}, {1, 4, -1}, {2, 0, low}, {2, 65535, high},
            {3, 0, -32768}, {3, 65535, 32767}, {4, 0, low}, {4, 1, high}, {5, 0, 0}, {5, 5, 1}
        };
        for (int i = 0; i < calls.length; i++) {
            due.same("unit(" + calls[i][0] + ", " + calls[i][1] + ", " + calls[i][2] + ")",
                    forms.unit(calls[i][0], calls[i][1], calls[i][2]), i);
        }
        due.same("how many", forms.count(3), calls.length);
    }

    private static void full(Due due) {
        SizeForms forms = prepared();
        for (int i = 0; i < 150; i++) {
            due.same("unit " + i, forms.unit(0, 200, 255), i);
        }
        due.same("widen()", forms.widen(), 1);
        int[][] calls = {{0, 1, 0}, {1, 1, 0}, {2, 5, 0}, {3, 5, 0}, {4, 0, 0}, {5, 0, 0}};
        for (int[] call : calls) {
            due.same("one more of sort " + call[0], forms.unit(call[0], call[1], call[2]), SizeForms.FULL);
        }
        due.same("a bad one", forms.unit(0, 0, 0), SizeForms.BAD);
        due.same("no locals by refused ones", forms.count(9), 0);
        due.same("still widened", forms.count(8), 30000);
        due.same("no label is used by refused ones", forms.widen(), 1);
        due.same("the last byte", forms.out(29999), 255);
    }

    private static void loads(Due due) {
        SizeForms forms = new SizeForms();
        forms.number(1, 0);
        for (int i = 3; i <= 256; i++) {
            forms.number(0, i);
        }
        forms.number(2, 0);
        forms.number(0, 999);
        int[] places = {1, 3, 255, 256, 257, 259};
        for (int place : places) {
            forms.unit(1, place, 0);
        }
        forms.widen();
        due.bytes("loads", forms, 0, 20, 0, 1, 18, 3, 18, 255, 19, 1, 0, 20, 1, 1, 19, 1, 3);
        int[] sizes = {3, 2, 2, 3, 3, 3}, kinds = {0, 0, 0, 1, 0, 1};
        for (int i = 0; i < places.length; i++) {
            due.same("bytes of load " + places[i], forms.of(i, 2), sizes[i]);
            due.same("form of load " + places[i], forms.of(i, 1), kinds[i]);
            due.same("d of load " + places[i], forms.of(i, 3), SizeForms.NONE);
        }
        due.same("loads need no locals", forms.count(9), 0);
    }

    private static void takes(Due due) {
        SizeForms forms = new SizeForms();
        int[] locals = {0, 3, 4, 255, 256, 65535};
        for (int local : locals) {
            forms.unit(2, local, 0);
            due.same("locals", forms.count(9), local + 1);
        }
        forms.unit(2, 7, 0);
        due.same("locals by the greatest", forms.count(9), 65536);
        forms.widen();
        due.bytes("takes", forms, 0, 26, 29, 21, 4, 21, 255, 196, 21, 1, 0, 196, 21, 255, 255, 21, 7);
        int[] kinds = {0, 0, 0, 0, 1, 1};
        for (int i = 0; i < kinds.length; i++) {
            due.same("form of take " + locals[i], forms.of(i, 1), kinds[i]);
        }
    }

    private static void raises(Due due) {
        SizeForms forms = new SizeForms();
        int[][] calls = {{0, 127}, {255, -128}, {9, 128}, {9, -129}, {256, 1}, {65535, -32768}, {0, 32767}};
        for (int[] call : calls) {
            forms.unit(3, call[0], call[1]);
        }
        forms.widen();
        due.bytes("raises", forms, 0,
                132, 0, 127, 132, 255, 128,
                196, 132, 0, 9, 0, 128, 196, 132, 0, 9, 255, 127, 196, 132, 1, 0, 0, 1,
                196, 132, 255, 255, 128, 0, 196, 132, 0, 0, 127, 255);
        int[] kinds = {0, 0, 1, 1, 1, 1, 1};
        for (int i = 0; i < kinds.length; i++) {
            due.same("form of raise " + i, forms.of(i, 1), kinds[i]);
            due.same("bytes of raise " + i, forms.of(i, 2), kinds[i] == 1 ? 6 : 3);
        }
        due.same("locals", forms.count(9), 65536);
    }

    private static void plains(Due due) {
        SizeForms forms = new SizeForms();
        forms.unit(0, 3, 255);
        forms.unit(0, 1, 0);
        forms.unit(0, 2, 128);
        forms.widen();
        due.bytes("plains", forms, 0, 255, 255, 255, 0, 128, 128);
        due.same("form of plain", forms.of(0, 1), 0);
        due.same("d of plain", forms.of(0, 3), SizeForms.NONE);
    }

    private static void whatUndoesWidening(Due due) {
        SizeForms forms = new SizeForms();
        forms.unit(0, 3, 255);
        forms.widen();
        forms.unit(0, 0, 0);
        due.same("a refused unit leaves it widened", forms.count(8), 3);
        forms.unit(0, 1, 1);
        due.same("a unit undoes it", forms.count(8), SizeForms.NOT);
    }
}
