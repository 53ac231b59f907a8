/** Promises 1 to 5: a new object, feed, clear, size, symbol. */
public final class RowsTest {
  public static void main(String[] args) {
    promise1NewObjectIsEmpty();
    promise1LimitIsCutTo0And40();
    promise2Feed();
    promise2FeedWrongInputs();
    promise2FeedFullRow();
    promise3Clear();
    promise4Size();
    promise5Symbol();
    objectsAreApart();
    Check.end("RowsTest");
  }

  private static void promise1NewObjectIsEmpty() {
    for (int limit : new int[] {Integer.MIN_VALUE, -1, 0, 7, 40, 41, Integer.MAX_VALUE}) {
      DiffDesk desk = new DiffDesk(limit);
      for (int row = 0; row < 3; row++) {
        Check.due("size of a new row", desk.size(row), 0);
        Check.due("symbol of a new row", desk.symbol(row, 0), (short) -1);
      }
      Check.due("a new script", Check.scriptOf(desk, 0), "");
      Check.due("a new result", desk.results(), 0);
      Check.due("no symbol in a new result", desk.result(0), -40);
      Check.due("no hunks", desk.hunks(0), 0);
      Check.due("no hunk", desk.hunk(0, 0, 0), -1);
      Check.due("patch of nothing by nothing", desk.patch(2), 0);
      Check.due("merge of nothing", desk.merge(), 0);
      Check.due("results of merging nothing", desk.results(), 0);
    }
  }

  private static void promise1LimitIsCutTo0And40() {
    for (int limit : new int[] {Integer.MIN_VALUE, -1, 0, 1, 2, 39, 40, 41, Integer.MAX_VALUE}) {
      int cut = limit < 0 ? 0 : limit > 40 ? 40 : limit;
      DiffDesk desk = new DiffDesk(limit);
      Check.due("nothing to do is within each limit", desk.diff(0, 1), 0);
      for (int k = 1; k <= 40; k++) {
        Check.feed(desk, k % 2, 100 + k);
        Object due = k <= cut ? (Object) k : "IllegalStateException";
        Check.due("limit " + limit + ", " + k + " operations", Check.outcome(() -> desk.diff(0, 1)), due);
      }
    }
  }

  private static void promise2Feed() {
    DiffDesk desk = new DiffDesk(40);
    Check.feed(desk, 0, 0, 30000, 5, 5);
    Check.feed(desk, 1, 1);
    Check.feed(desk, 2, 2, 3);
    Check.due("row 0", Check.rowOf(desk, 0), "0 30000 5 5");
    Check.due("row 1", Check.rowOf(desk, 1), "1");
    Check.due("row 2", Check.rowOf(desk, 2), "2 3");
  }

  private static void promise2FeedWrongInputs() {
    DiffDesk desk = new DiffDesk(40);
    for (int row : new int[] {-1, 3, Integer.MIN_VALUE, Integer.MAX_VALUE}) {
      Check.due("feed to row " + row, desk.feed(row, (short) 1), false);
    }
    for (int symbol : new int[] {-1, 30001, Short.MIN_VALUE, Short.MAX_VALUE}) {
      Check.due("feed symbol " + symbol, desk.feed(0, (short) symbol), false);
    }
    for (int row = 0; row < 3; row++) {
      Check.due("a refused feed leaves row " + row, desk.size(row), 0);
    }
  }

  private static void promise2FeedFullRow() {
    DiffDesk desk = new DiffDesk(40);
    for (int row = 0; row < 3; row++) {
      Check.feedSame(desk, row, row, 20);
      Check.due("the 21st symbol of row " + row, desk.feed(row, (short) 9), false);
      Check.due("size of a full row", desk.size(row), 20);
      Check.due("last symbol of a full row", desk.symbol(row, 19), (short) row);
      Check.due("behind a full row", desk.symbol(row, 20), (short) -1);
    }
  }

  private static void promise3Clear() {
    DiffDesk desk = Check.desk(40, Check.row(1, 2), Check.row(3, 4), Check.row(5));
    Check.due("clear(1)", desk.clear(1), true);
    Check.due("row 1 cleared", Check.rowOf(desk, 1), "");
    Check.due("no symbol in row 1", desk.symbol(1, 0), (short) -1);
    Check.due("row 0 not cleared", Check.rowOf(desk, 0), "1 2");
    Check.due("row 2 not cleared", Check.rowOf(desk, 2), "5");
    Check.due("clear(1) again", desk.clear(1), true);
    for (int row : new int[] {-1, 3, Integer.MIN_VALUE, Integer.MAX_VALUE}) {
      Check.due("clear(" + row + ")", desk.clear(row), false);
    }
    Check.due("row 0 after wrong clears", Check.rowOf(desk, 0), "1 2");
    Check.feed(desk, 1, 7);
    Check.due("row 1 fed again", Check.rowOf(desk, 1), "7");
    Check.due("clear keeps script and result", desk.diff(0, 2), 3);
    desk.patch(0);
    desk.clear(0);
    desk.clear(2);
    Check.due("script after clear", Check.scriptOf(desk, 3), "-0:1 -1:2 +2:5");
    Check.due("result after clear", Check.resultOf(desk), "5");
  }

  private static void promise4Size() {
    DiffDesk desk = Check.desk(40, Check.row(1, 2), Check.row(), Check.row(5));
    Check.due("size(0)", desk.size(0), 2);
    Check.due("size(1)", desk.size(1), 0);
    Check.due("size(2)", desk.size(2), 1);
    for (int row : new int[] {-1, 3, Integer.MIN_VALUE, Integer.MAX_VALUE}) {
      Check.due("size(" + row + ")", desk.size(row), -1);
    }
  }

  private static void promise5Symbol() {
    DiffDesk desk = Check.desk(40, Check.row(0, 30000), Check.row(), Check.row(8));
    Check.due("symbol(0, 0)", desk.symbol(0, 0), (short) 0);
    Check.due("symbol(0, 1)", desk.symbol(0, 1), (short) 30000);
    Check.due("symbol(2, 0)", desk.symbol(2, 0), (short) 8);
    for (int k : new int[] {-1, 2, 20, Integer.MIN_VALUE, Integer.MAX_VALUE}) {
      Check.due("symbol(0, " + k + ")", desk.symbol(0, k), (short) -1);
    }
    for (int row : new int[] {-1, 3, Integer.MIN_VALUE, Integer.MAX_VALUE}) {
      Check.due("symbol(" + row + ", 0)", desk.symbol(row, 0), (short) -1);
    }
  }

  private static void objectsAreApart() {
    DiffDesk one = Check.desk(40, Check.row(1), Check.row(2), Check.row());
    DiffDesk two = new DiffDesk(40);
    one.diff(0, 1);
    one.patch(0);
    Check.due("rows of another object", two.size(0), 0);
    Check.due("script of another object", two.operation(0, 0), -1);
    Check.due("result of another object", two.results(), 0);
    Check.due("hunks of another object", two.hunks(0), 0);
  }
}
