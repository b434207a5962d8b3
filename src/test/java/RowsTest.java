/** Promises 16 to 23: rows. */
public final class RowsTest {
    private static final long LEAST = Long.MIN_VALUE;
    private static final long MOST = Long.MAX_VALUE;
    private static final Due due = new Due();

    public static void main(String[] args) {
        row();
        add();
        join();
        upToTheLimit();
        cut();
        replace();
        turned();
        at();
        find();
        oldRowsStay();
        otherThings();
        due.end();
    }

    private static int rowOf(OrderedMaps x, long... items) {
        int row = x.row();
        for (long item : items) {
            row = x.add(row, false, item);
        }
        return row;
    }

    private static void itemsAre(String what, OrderedMaps x, int row, long... items) {
        due.is(what + ": size", x.size(row), items.length);
        for (int i = 0; i < items.length && i < x.size(row); i++) {
            due.is(what + ": item at " + i, x.at(row, i), items[i]);
        }
        due.is(what + ": sound", x.sound(row), true);
    }

    private static void row() {
        OrderedMaps x = new OrderedMaps();
        due.is("row", x.row(), 0);
        due.is("row", x.row(), 1);
        itemsAre("row", x, 1);
        due.is("rows told", x.told(2), 2);
    }

    private static void add() {
        OrderedMaps x = new OrderedMaps();
        x.row();
        due.is("behind", x.add(0, false, 5), 1);
        due.is("ahead", x.add(1, true, MOST), 2);
        due.is("behind", x.add(2, false, LEAST), 3);
        due.is("the same again", x.add(3, true, 5), 4);
        itemsAre("add", x, 4, 5, MOST, 5, LEAST);
    }

    private static void join() {
        OrderedMaps x = new OrderedMaps();
        int a = rowOf(x, 1, 2);
        int b = rowOf(x, 2, 3, 0);
        itemsAre("a, b", x, x.join(a, b), 1, 2, 2, 3, 0);
        itemsAre("b, a", x, x.join(b, a), 2, 3, 0, 1, 2);
        itemsAre("a, a", x, x.join(a, a), 1, 2, 1, 2);
        itemsAre("a, none", x, x.join(a, 0), 1, 2);
        itemsAre("none, b", x, x.join(0, b), 2, 3, 0);
        itemsAre("none, none", x, x.join(0, 0));
    }

    private static void upToTheLimit() {
        OrderedMaps x = new OrderedMaps();
        int ten = rowOf(x, 0, 1, 2, 3, 4, 5, 6, 7, 8, 9);
        int fifty = x.join(x.join(x.join(ten, ten), x.join(ten, ten)), ten);
        int most = x.join(fifty, fifty);
        due.is("100 items", x.size(most), 100);
        due.is("sound", x.sound(most), true);
        int things = x.told(0);
        due.is("add behind", x.add(most, false, 1), -2);
        due.is("add ahead", x.add(most, true, 1), -2);
        int one = rowOf(x, 1);
        due.is("join of 101", x.join(most, one), -2);
        due.is("join of 101", x.join(one, most), -2);
        due.is("join of 200", x.join(most, most), -2);
        due.is("no thing was made", x.told(0), things + 2);
        due.is("join of 100", x.size(x.join(most, 0)), 100);
        due.is("the last item", x.at(most, 99), 9);
        int fewer = x.cut(most, 1, 1);
        due.is("99 items", x.size(fewer), 99);
        due.is("room again", x.size(x.add(fewer, true, 7)), 100);
        due.is("turned", x.size(x.turned(most)), 100);
        due.is("replaced", x.size(x.replace(most, 99, 1)), 100);
    }

    private static void cut() {
        OrderedMaps x = new OrderedMaps();
        int r = rowOf(x, 4, 5, 6);
        itemsAre("first 0", x, x.cut(r, 0, 0));
        itemsAre("first 1", x, x.cut(r, 1, 0), 4);
        itemsAre("first 3", x, x.cut(r, 3, 0), 4, 5, 6);
        itemsAre("but 0", x, x.cut(r, 0, 1), 4, 5, 6);
        itemsAre("but 1", x, x.cut(r, 1, 1), 5, 6);
        itemsAre("but 3", x, x.cut(r, 3, 1));
        itemsAre("of none", x, x.cut(0, 0, 1));
        int things = x.told(0);
        due.is("n 4", x.cut(r, 4, 0), -2);
        due.is("n 4", x.cut(r, 4, 1), -2);
        due.is("n -1", x.cut(r, -1, 0), -2);
        due.is("n most", x.cut(r, Integer.MAX_VALUE, 1), -2);
        due.is("n least", x.cut(r, Integer.MIN_VALUE, 1), -2);
        due.is("side 2", x.cut(r, 1, 2), -2);
        due.is("side -1", x.cut(r, 1, -1), -2);
        due.is("no thing was made", x.told(0), things);
    }

    private static void replace() {
        OrderedMaps x = new OrderedMaps();
        int r = rowOf(x, 4, 5, 6);
        itemsAre("at 0", x, x.replace(r, 0, 9), 9, 5, 6);
        itemsAre("at 1", x, x.replace(r, 1, LEAST), 4, LEAST, 6);
        itemsAre("at 2", x, x.replace(r, 2, 6), 4, 5, 6);
        due.is("at 3", x.replace(r, 3, 9), -2);
        due.is("at -1", x.replace(r, -1, 9), -2);
        due.is("at most", x.replace(r, Integer.MAX_VALUE, 9), -2);
        due.is("at least", x.replace(r, Integer.MIN_VALUE, 9), -2);
        due.is("of none", x.replace(0, 0, 9), -2);
        due.is("no thing was made", x.told(0), 7);
    }

    private static void turned() {
        OrderedMaps x = new OrderedMaps();
        int r = rowOf(x, 1, 2, 3, 4);
        itemsAre("four", x, x.turned(r), 4, 3, 2, 1);
        itemsAre("three", x, x.turned(3), 3, 2, 1);
        itemsAre("one", x, x.turned(1), 1);
        itemsAre("none", x, x.turned(0));
        itemsAre("twice", x, x.turned(x.turned(r)), 1, 2, 3, 4);
    }

    private static void at() {
        OrderedMaps x = new OrderedMaps();
        int r = rowOf(x, LEAST, MOST);
        due.is("0", x.at(r, 0), LEAST);
        due.is("1", x.at(r, 1), MOST);
        due.fails("2", IndexOutOfBoundsException.class, () -> x.at(r, 2));
        due.fails("-1", IndexOutOfBoundsException.class, () -> x.at(r, -1));
        due.fails("most", IndexOutOfBoundsException.class, () -> x.at(r, Integer.MAX_VALUE));
        due.fails("least", IndexOutOfBoundsException.class, () -> x.at(r, Integer.MIN_VALUE));
        due.fails("none", IndexOutOfBoundsException.class, () -> x.at(0, 0));
        due.fails("unknown", IllegalArgumentException.class, () -> x.at(9, 0));
        due.fails("unknown comes first", IllegalArgumentException.class, () -> x.at(9, 9));
        due.fails("below", IllegalArgumentException.class, () -> x.at(-1, 0));
    }

    private static void find() {
        OrderedMaps x = new OrderedMaps();
        int r = rowOf(x, 3, -8, 5, 3, MOST, LEAST);
        due.is("3 from 0", x.find(r, 0, 3), 0);
        due.is("3 from 1", x.find(r, 1, 3), 2);
        due.is("4 from 0", x.find(r, 0, 4), 2);
        due.is("6 from 0", x.find(r, 0, 6), 4);
        due.is("the most from 0", x.find(r, 0, MOST), 4);
        due.is("the most from 5", x.find(r, 5, MOST), -3);
        due.is("the least from 5", x.find(r, 5, LEAST), 5);
        due.is("the least from 6", x.find(r, 6, LEAST), -3);
        due.is("from far behind", x.find(r, Integer.MAX_VALUE, LEAST), -3);
        due.is("from -1", x.find(r, -1, LEAST), -2);
        due.is("from the least", x.find(r, Integer.MIN_VALUE, LEAST), -2);
        due.is("of none", x.find(0, 0, LEAST), -3);
        due.is("of none from -1", x.find(0, -1, LEAST), -2);
        due.is("unknown from -1", x.find(99, -1, LEAST), -1);
    }

    private static void oldRowsStay() {
        OrderedMaps x = new OrderedMaps();
        int r = rowOf(x, 7, 8, 9);
        x.add(r, true, 1);
        x.add(r, false, 1);
        x.join(r, r);
        x.cut(r, 1, 0);
        x.cut(r, 1, 1);
        x.replace(r, 1, 55);
        x.replace(x.cut(r, 3, 0), 0, 66);
        x.turned(r);
        itemsAre("the old row", x, r, 7, 8, 9);
        itemsAre("the older row", x, r - 1, 7, 8);
    }

    private static void otherThings() {
        OrderedMaps x = new OrderedMaps();
        int row = x.row();
        int map = x.map(false, false);
        int heap = x.heap();
        for (int other : new int[] {map, heap, 3, -1, Integer.MIN_VALUE, Integer.MAX_VALUE}) {
            due.is("add", x.add(other, false, 1), -1);
            due.is("join", x.join(row, other), -1);
            due.is("join", x.join(other, row), -1);
            due.is("cut", x.cut(other, 0, 0), -1);
            due.is("cut with a wrong side", x.cut(other, -1, 2), -1);
            due.is("replace", x.replace(other, 0, 1), -1);
            due.is("turned", x.turned(other), -1);
            due.is("find", x.find(other, 0, 1), -1);
            due.fails("at", IllegalArgumentException.class, () -> x.at(other, 0));
        }
        due.is("no thing was made", x.told(0), 3);
    }
}
