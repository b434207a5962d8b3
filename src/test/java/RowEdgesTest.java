/** The boundary cases of promises 16 to 23: rows. */
public final class RowEdgesTest {
    private static final long LEAST = Edges.LEAST;
    private static final long MOST = Edges.MOST;
    /** Things of the other sorts in Edges.oneOfEach(). */
    private static final int[] NO_ROWS = {0, 1, 4, 5};
    private static final int[] NO_SIDES = {-1, 2, 3, Integer.MIN_VALUE, Integer.MAX_VALUE};
    private static final Edges edges = new Edges();
    private static final Due due = edges.due;

    public static void main(String[] args) throws ReflectiveOperationException {
        edges.runAll(RowEdgesTest.class);
    }

    /** An object with 300 things: 0 a map, 1 a row without items, 4 one with three, more rows behind. */
    private static OrderedMaps full() {
        OrderedMaps x = new OrderedMaps();
        x.map(false, false);
        Edges.rowOf(x, 1, 2, 3);
        Edges.fill(x, 300);
        return x;
    }

    // PROMISE 16

    @Edge(promise = 16, says = "A ROW without ITEMS")
    static void aNewRowHasNoItems() {
        OrderedMaps x = new OrderedMaps();
        due.is("its number", x.row(), 0);
        edges.rowIs(x, 0);
        due.is("rows", x.told(2), 1);
    }

    @Edge(promise = 16, says = "-4")
    static void row301IsRefused() {
        edges.lastThing(new OrderedMaps(), y -> y.row());
    }

    // PROMISE 17

    @Edge(promise = 17, says = "-1")
    static void addToNoRow() {
        edges.unknown((y, row) -> y.add(row, false, 1), NO_ROWS);
        edges.unknown((y, row) -> y.add(row, true, 1), NO_ROWS);
    }

    @Edge(promise = 17, says = "-1; -4")
    static void addToNoRowIsMinus1EvenWith300Things() {
        edges.refused("to a map", full(), -1, y -> y.add(0, true, 1));
        edges.refused("to 300", full(), -1, y -> y.add(300, true, 1));
    }

    @Edge(promise = 17, says = "-4")
    static void addOfThing301() {
        for (boolean ahead : new boolean[] {false, true}) {
            OrderedMaps x = new OrderedMaps();
            x.row();
            edges.lastThing(x, y -> y.add(0, ahead, 1));
        }
    }

    @Edge(promise = 17, says = "-4; -2")
    static void addIsMinus4AheadOfMinus2() {
        OrderedMaps x = new OrderedMaps();
        int row = Edges.rowOfMany(x, 100);
        edges.refused("with room for things", x, -2, y -> y.add(row, false, 1));
        Edges.fill(x, 300);
        edges.refused("with 300 things", x, -4, y -> y.add(row, false, 1));
        edges.refused("with 300 things", x, -4, y -> y.add(row, true, 1));
    }

    @Edge(promise = 17, says = "-2")
    static void addOfItem101() {
        OrderedMaps x = new OrderedMaps();
        int row = Edges.rowOfMany(x, 99);
        for (boolean ahead : new boolean[] {false, true}) {
            int most = x.add(row, ahead, 7);
            due.is("item 100", x.size(most), 100);
            due.is("it stands at its end", x.at(most, ahead ? 0 : 99), 7);
            edges.refused("item 101", x, -2, y -> y.add(most, ahead, 7));
            edges.refused("item 101 at the other end", x, -2, y -> y.add(most, !ahead, 7));
        }
    }

    @Edge(promise = 17, says = "ahead of the others or behind them")
    static void addToAnEmptyRow() {
        OrderedMaps x = new OrderedMaps();
        x.row();
        edges.rowIs(x, x.add(0, true, LEAST), LEAST);
        edges.rowIs(x, x.add(0, false, MOST), MOST);
    }

    @Edge(promise = 17, says = "ahead of the others or behind them")
    static void addOfTheSameItemAgain() {
        OrderedMaps x = new OrderedMaps();
        int row = Edges.rowOf(x, 1, 2);
        edges.rowIs(x, x.add(row, true, 2), 2, 1, 2);
        edges.rowIs(x, x.add(row, false, 1), 1, 2, 1);
    }

    // PROMISE 18

    @Edge(promise = 18, says = "-1")
    static void joinOfNoRows() {
        edges.unknown((y, row) -> y.join(row, 3), NO_ROWS);
        edges.unknown((y, row) -> y.join(3, row), NO_ROWS);
        edges.unknown((y, row) -> y.join(row, row), NO_ROWS);
    }

    @Edge(promise = 18, says = "-1; -4")
    static void joinOfNoRowsIsMinus1EvenWith300Things() {
        edges.refused("with a map", full(), -1, y -> y.join(4, 0));
        edges.refused("of a map", full(), -1, y -> y.join(0, 4));
    }

    @Edge(promise = 18, says = "-4")
    static void joinOfThing301() {
        OrderedMaps x = new OrderedMaps();
        x.row();
        edges.lastThing(x, y -> y.join(0, 0));
    }

    @Edge(promise = 18, says = "-4; -2")
    static void joinIsMinus4AheadOfMinus2() {
        OrderedMaps x = new OrderedMaps();
        int row = Edges.rowOfMany(x, 51);
        edges.refused("with room for things", x, -2, y -> y.join(row, row));
        Edges.fill(x, 300);
        edges.refused("with 300 things", x, -4, y -> y.join(row, row));
    }

    @Edge(promise = 18, says = "-2")
    static void joinOf101Items() {
        OrderedMaps x = new OrderedMaps();
        int fifty = Edges.rowOfMany(x, 50);
        int more = x.add(fifty, true, 7);
        int most = x.join(fifty, fifty);
        due.is("100 items", x.size(most), 100);
        edges.refused("50 and 51", x, -2, y -> y.join(fifty, more));
        edges.refused("51 and 50", x, -2, y -> y.join(more, fifty));
        edges.refused("100 and 1", x, -2, y -> y.join(most, 1));
        edges.refused("1 and 100", x, -2, y -> y.join(1, most));
        edges.refused("100 and 100", x, -2, y -> y.join(most, most));
    }

    @Edge(promise = 18, says = "-2")
    static void joinOf100ItemsWithNone() {
        OrderedMaps x = new OrderedMaps();
        int most = Edges.rowOfMany(x, 100);
        due.is("behind", x.size(x.join(most, 0)), 100);
        due.is("ahead", x.size(x.join(0, most)), 100);
    }

    @Edge(promise = 18, says = "A ROW with the ITEMS of a, then of b")
    static void joinOfEmptyRowsAndOfItself() {
        OrderedMaps x = new OrderedMaps();
        int row = Edges.rowOf(x, 1, 2);
        edges.rowIs(x, x.join(0, 0));
        edges.rowIs(x, x.join(0, row), 1, 2);
        edges.rowIs(x, x.join(row, 0), 1, 2);
        edges.rowIs(x, x.join(row, row), 1, 2, 1, 2);
    }

    // PROMISE 19

    @Edge(promise = 19, says = "-1")
    static void cutOfNoRow() {
        edges.unknown((y, row) -> y.cut(row, 0, 0), NO_ROWS);
        edges.unknown((y, row) -> y.cut(row, 0, 1), NO_ROWS);
    }

    @Edge(promise = 19, says = "-1; -2 n is below 0")
    static void cutIsMinus1AheadOfMinus2() {
        edges.unknown((y, row) -> y.cut(row, -1, 0), NO_ROWS);
        edges.unknown((y, row) -> y.cut(row, 2, 1), NO_ROWS);
        edges.unknown((y, row) -> y.cut(row, 0, 2), NO_ROWS);
    }

    @Edge(promise = 19, says = "-2 n is below 0")
    static void cutBelow0() {
        OrderedMaps x = new OrderedMaps();
        int row = Edges.rowOf(x, 1, 2);
        for (int n : new int[] {-1, -2, Integer.MIN_VALUE}) {
            edges.refused("n " + n, x, -2, y -> y.cut(row, n, 0));
            edges.refused("n " + n, x, -2, y -> y.cut(row, n, 1));
            edges.refused("n " + n + " of the empty row", x, -2, y -> y.cut(0, n, 0));
        }
    }

    @Edge(promise = 19, says = "or above how many there are")
    static void cutAboveHowManyThereAre() {
        OrderedMaps x = new OrderedMaps();
        int row = Edges.rowOf(x, 1, 2);
        for (int n : new int[] {3, 4, 100, Integer.MAX_VALUE}) {
            edges.refused("n " + n, x, -2, y -> y.cut(row, n, 0));
            edges.refused("n " + n, x, -2, y -> y.cut(row, n, 1));
        }
        edges.refused("1 of the empty row", x, -2, y -> y.cut(0, 1, 0));
        edges.refused("1 of the empty row", x, -2, y -> y.cut(0, 1, 1));
    }

    @Edge(promise = 19, says = "; side; -4")
    static void cutOfNoSide() {
        OrderedMaps x = new OrderedMaps();
        int row = Edges.rowOf(x, 1, 2);
        for (int side : NO_SIDES) {
            edges.refused("side " + side, x, -2, y -> y.cut(row, 1, side));
            edges.refused("side " + side + " of the empty row", x, -2, y -> y.cut(0, 0, side));
        }
    }

    @Edge(promise = 19, says = "side; -4")
    static void cutIsMinus1ThenMinus2AheadOfMinus4() {
        OrderedMaps x = full();
        edges.refused("of a map", x, -1, y -> y.cut(0, 0, 0));
        edges.refused("n -1", x, -2, y -> y.cut(4, -1, 0));
        edges.refused("n 4", x, -2, y -> y.cut(4, 4, 1));
        edges.refused("side 2", x, -2, y -> y.cut(4, 1, 2));
        edges.refused("side -1", x, -2, y -> y.cut(4, 1, -1));
    }

    @Edge(promise = 19, says = "-4")
    static void cutOfThing301() {
        for (int n : new int[] {0, 1, 2}) {
            for (int side : new int[] {0, 1}) {
                OrderedMaps x = new OrderedMaps();
                int row = Edges.rowOf(x, 1, 2);
                edges.lastThing(x, y -> y.cut(row, n, side));
            }
        }
    }

    @Edge(promise = 19, says = "A ROW with the first n ITEMS (side = 0), with the others (1)")
    static void cutAt0AndAtTheEnd() {
        OrderedMaps x = new OrderedMaps();
        int row = Edges.rowOf(x, 1, 2, 3);
        edges.rowIs(x, x.cut(row, 0, 0));
        edges.rowIs(x, x.cut(row, 0, 1), 1, 2, 3);
        edges.rowIs(x, x.cut(row, 3, 0), 1, 2, 3);
        edges.rowIs(x, x.cut(row, 3, 1));
    }

    @Edge(promise = 19, says = "A ROW with the first n ITEMS (side = 0), with the others (1)")
    static void cutOfAnEmptyRow() {
        OrderedMaps x = new OrderedMaps();
        x.row();
        edges.rowIs(x, x.cut(0, 0, 0));
        edges.rowIs(x, x.cut(0, 0, 1));
    }

    @Edge(promise = 19, says = "A ROW with the first n ITEMS (side = 0), with the others (1)")
    static void cutOf100ItemsAndJoinedAgain() {
        OrderedMaps x = new OrderedMaps();
        int row = Edges.rowOfMany(x, 100);
        for (int n : new int[] {0, 1, 50, 99, 100}) {
            int first = x.cut(row, n, 0);
            int others = x.cut(row, n, 1);
            due.is("the first", x.size(first), n);
            due.is("the others", x.size(others), 100 - n);
            due.is("joined", x.same(x.join(first, others), row), 1);
        }
    }

    // PROMISE 20

    @Edge(promise = 20, says = "-1")
    static void replaceInNoRow() {
        edges.unknown((y, row) -> y.replace(row, 0, 1), NO_ROWS);
    }

    @Edge(promise = 20, says = "-1; -2 the place")
    static void replaceIsMinus1AheadOfMinus2() {
        edges.unknown((y, row) -> y.replace(row, -1, 1), NO_ROWS);
        edges.unknown((y, row) -> y.replace(row, 1, 1), NO_ROWS);
    }

    @Edge(promise = 20, says = "-2 the place")
    static void replaceAtNoPlace() {
        OrderedMaps x = new OrderedMaps();
        int row = Edges.rowOf(x, 1, 2);
        for (int place : new int[] {-1, 2, 3, Integer.MIN_VALUE, Integer.MAX_VALUE}) {
            edges.refused("place " + place, x, -2, y -> y.replace(row, place, 9));
        }
        edges.refused("in the empty row", x, -2, y -> y.replace(0, 0, 9));
    }

    @Edge(promise = 20, says = "-2 the place; -4")
    static void replaceIsMinus1ThenMinus2AheadOfMinus4() {
        OrderedMaps x = full();
        edges.refused("in a map", x, -1, y -> y.replace(0, 0, 9));
        edges.refused("place 3", x, -2, y -> y.replace(4, 3, 9));
        edges.refused("place -1", x, -2, y -> y.replace(4, -1, 9));
        edges.refused("in the empty row", x, -2, y -> y.replace(1, 0, 9));
    }

    @Edge(promise = 20, says = "-4")
    static void replaceOfThing301() {
        OrderedMaps x = new OrderedMaps();
        int row = Edges.rowOf(x, 1);
        edges.lastThing(x, y -> y.replace(row, 0, 9));
    }

    @Edge(promise = 20, says = "A ROW with another ITEM at a place")
    static void replaceAtTheFirstAndTheLastPlace() {
        OrderedMaps x = new OrderedMaps();
        int row = Edges.rowOf(x, 1, 2, 3);
        edges.rowIs(x, x.replace(row, 0, LEAST), LEAST, 2, 3);
        edges.rowIs(x, x.replace(row, 2, MOST), 1, 2, MOST);
        edges.rowIs(x, x.replace(row, 1, 2), 1, 2, 3);
        edges.rowIs(x, row, 1, 2, 3);
    }

    @Edge(promise = 20, says = "A ROW with another ITEM at a place")
    static void replaceInARowOf100Items() {
        OrderedMaps x = new OrderedMaps();
        int row = Edges.rowOfMany(x, 100);
        int other = x.replace(row, 99, -5);
        due.is("100 items", x.size(other), 100);
        due.is("the last", x.at(other, 99), -5);
        edges.refused("place 100", x, -2, y -> y.replace(row, 100, 1));
    }

    // PROMISE 21

    @Edge(promise = 21, says = "-1")
    static void turnedOfNoRow() {
        edges.unknown((y, row) -> y.turned(row), NO_ROWS);
    }

    @Edge(promise = 21, says = "-1; -4")
    static void turnedIsMinus1AheadOfMinus4() {
        edges.refused("a map", full(), -1, y -> y.turned(0));
        edges.refused("300", full(), -1, y -> y.turned(300));
    }

    @Edge(promise = 21, says = "-4")
    static void turnedOfThing301() {
        OrderedMaps x = new OrderedMaps();
        x.row();
        edges.lastThing(x, y -> y.turned(0));
    }

    @Edge(promise = 21, says = "A ROW the other way round")
    static void turnedOfNoneOneTwoAndThreeItems() {
        OrderedMaps x = new OrderedMaps();
        edges.rowIs(x, x.turned(Edges.rowOf(x)));
        edges.rowIs(x, x.turned(Edges.rowOf(x, 1)), 1);
        edges.rowIs(x, x.turned(Edges.rowOf(x, 1, 2)), 2, 1);
        edges.rowIs(x, x.turned(Edges.rowOf(x, 1, 2, 3)), 3, 2, 1);
    }

    @Edge(promise = 21, says = "A ROW the other way round")
    static void turnedOf100Items() {
        OrderedMaps x = new OrderedMaps();
        int row = x.turned(Edges.rowOfMany(x, 100));
        for (int i = 0; i < 100; i++) {
            due.is("item at " + i, x.at(row, i), 99 - i);
        }
    }

    // PROMISE 22

    @Edge(promise = 22, says = "IllegalArgumentException: no such ROW")
    static void atOfNoRow() {
        edges.unknownThrows((y, row) -> y.at(row, 0), NO_ROWS);
    }

    @Edge(promise = 22, says = "IllegalArgumentException: no such ROW; IndexOutOfBoundsException")
    static void atOfNoRowComesAheadOfThePlace() {
        edges.unknownThrows((y, row) -> y.at(row, -1), NO_ROWS);
        edges.unknownThrows((y, row) -> y.at(row, 1), NO_ROWS);
    }

    @Edge(promise = 22, says = "IndexOutOfBoundsException")
    static void atNoPlace() {
        OrderedMaps x = new OrderedMaps();
        int row = Edges.rowOf(x, 1, 2);
        for (int place : new int[] {-1, 2, 3, Integer.MIN_VALUE, Integer.MAX_VALUE}) {
            edges.thrown("place " + place, x, IndexOutOfBoundsException.class, 0, y -> y.at(row, place));
        }
        edges.thrown("of the empty row", x, IndexOutOfBoundsException.class, 0, y -> y.at(0, 0));
    }

    @Edge(promise = 22, says = "The ITEM at a place")
    static void atTheFirstAndTheLastOf100Places() {
        OrderedMaps x = new OrderedMaps();
        int row = x.replace(x.replace(Edges.rowOfMany(x, 100), 0, LEAST), 99, MOST);
        due.is("the first", x.at(row, 0), LEAST);
        due.is("the last", x.at(row, 99), MOST);
        edges.thrown("place 100", x, IndexOutOfBoundsException.class, 0, y -> y.at(row, 100));
    }

    // PROMISE 23

    @Edge(promise = 23, says = "-1")
    static void findInNoRow() {
        edges.unknown((y, row) -> y.find(row, 0, LEAST), NO_ROWS);
    }

    @Edge(promise = 23, says = "-1; -2 the place is below 0")
    static void findIsMinus1AheadOfMinus2() {
        edges.unknown((y, row) -> y.find(row, -1, LEAST), NO_ROWS);
    }

    @Edge(promise = 23, says = "-2 the place is below 0")
    static void findFromBelow0() {
        OrderedMaps x = new OrderedMaps();
        int row = Edges.rowOf(x, 1, 2);
        for (int place : new int[] {-1, -2, Integer.MIN_VALUE}) {
            edges.refused("place " + place, x, -2, y -> y.find(row, place, 1));
            edges.refused("place " + place + ", and there is none", x, -2, y -> y.find(row, place, 9));
            edges.refused("place " + place + " of the empty row", x, -2, y -> y.find(0, place, 9));
        }
    }

    @Edge(promise = 23, says = "-3 there is none")
    static void findOfNone() {
        OrderedMaps x = new OrderedMaps();
        int row = Edges.rowOf(x, 1, 2);
        edges.refused("3", x, -3, y -> y.find(row, 0, 3));
        edges.refused("the most", x, -3, y -> y.find(row, 0, MOST));
        edges.refused("of the empty row", x, -3, y -> y.find(0, 0, LEAST));
    }

    @Edge(promise = 23, says = "-3 there is none")
    static void findFromBehindTheLast() {
        OrderedMaps x = new OrderedMaps();
        int row = Edges.rowOf(x, 1, 2);
        for (int place : new int[] {2, 3, 100, Integer.MAX_VALUE}) {
            edges.refused("place " + place, x, -3, y -> y.find(row, place, LEAST));
        }
        due.is("the last itself", x.find(row, 1, LEAST), 1);
    }

    @Edge(promise = 23, says = "the first ITEM from a place on that is not below a number")
    static void findOfAnEqualItemAndOfTheFirstOfSeveral() {
        OrderedMaps x = new OrderedMaps();
        int row = Edges.rowOf(x, 1, 5, 3, 5);
        due.is("an equal one", x.find(row, 0, 5), 1);
        due.is("a larger one", x.find(row, 0, 4), 1);
        due.is("from its place on", x.find(row, 1, 5), 1);
        due.is("from behind it on", x.find(row, 2, 5), 3);
        due.is("below 0", x.find(row, 0, -1), 0);
    }

    @Edge(promise = 23, says = "the first ITEM from a place on that is not below a number")
    static void findOfTheEndsOfTheLongs() {
        OrderedMaps x = new OrderedMaps();
        int row = Edges.rowOf(x, LEAST, -1, MOST);
        due.is("the least", x.find(row, 0, LEAST), 0);
        due.is("one more", x.find(row, 0, LEAST + 1), 1);
        due.is("0", x.find(row, 0, 0), 2);
        due.is("the most", x.find(row, 0, MOST), 2);
    }

    @Edge(promise = 23, says = "the first ITEM from a place on that is not below a number")
    static void findOfTheLastOf100Items() {
        OrderedMaps x = new OrderedMaps();
        int row = Edges.rowOfMany(x, 100);
        due.is("99", x.find(row, 0, 99), 99);
        edges.refused("100", x, -3, y -> y.find(row, 0, 100));
        edges.refused("from 100", x, -3, y -> y.find(row, 100, 0));
    }
}
