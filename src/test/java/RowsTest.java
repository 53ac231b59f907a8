/** Promises 1 to 5: a new object, feed, clear, size, symbol. */
public final class RowsTest {
  public static void main(String[] args) {
    Check.holds("1: LIMIT is limit", RowsTest::limitIsLimit);
    Check.holds("1: but 0 if that is less", RowsTest::limitIs0IfLess);
    Check.holds("1: and 40 if that is more", RowsTest::limitIs40IfMore);
    Check.holds("1: Empty rows", RowsTest::newRowsAreEmpty);
    Check.holds("1: Empty .. scripts", RowsTest::newScriptsAreEmpty);
    Check.holds("1: Empty .. result", RowsTest::newResultIsEmpty);
    Check.holds("1: A new object (beside another one)", RowsTest::objectsAreApart);
    Check.holds("2: A symbol at the end of a row: true", RowsTest::feedPutsToTheEnd);
    Check.holds("2: False if there is no such row", RowsTest::feedNoSuchRow);
    Check.holds("2: False if there is no such .. symbol", RowsTest::feedNoSuchSymbol);
    Check.holds("2: False if .. it has 20", RowsTest::feedFullRow);
    Check.holds("2: (a full row that was cleared has room for 20 again)", RowsTest::feedClearedRow);
    Check.holds("3: A row becomes empty: true", RowsTest::clearMakesEmpty);
    Check.holds("3: (a row that is empty already: true too)", RowsTest::clearEmptyRow);
    Check.holds("3: (the row alone)", RowsTest::clearLeavesTheRest);
    Check.holds("3: false if there is no such one", RowsTest::clearNoSuchRow);
    Check.holds("4: How many symbols a row has", RowsTest::sizeCounts);
    Check.holds("4: NONE if there is no such one", RowsTest::sizeNoSuchRow);
    Check.holds("5: Symbol k of a row", RowsTest::symbolIsThere);
    Check.holds("5: -1 if there is none (before the first, behind the last)", RowsTest::symbolOutsideTheRow);
    Check.holds("5: -1 if there is none (an empty row)", RowsTest::symbolOfAnEmptyRow);
    Check.holds("5: -1 if there is none (the places of a row before clear)", RowsTest::symbolOfAClearedRow);
    Check.holds("5: -1 if there is none (no such row)", RowsTest::symbolNoSuchRow);
    Check.end("RowsTest");
  }

  /** What diff answers on an object with this limit if so many operations, at most 40, are needed. */
  private static Object diffOf(int limit, int operations) {
    int deletions = operations / 2;
    DiffDesk desk = Check.desk(limit, Check.same(1, deletions), Check.same(2, operations - deletions), Check.row());
    return Check.outcome(() -> desk.diff(0, 1));
  }

  private static void limitIsLimit() {
    for (int limit = 0; limit <= 40; limit++) {
      Check.due("LIMIT " + limit + ", as many operations", diffOf(limit, limit), limit);
      if (limit < 40) {
        Check.due("LIMIT " + limit + ", one more", diffOf(limit, limit + 1), "IllegalStateException");
      }
    }
  }

  private static void limitIs0IfLess() {
    for (int limit : new int[] {0, -1, -2, -40, -41, Integer.MIN_VALUE}) {
      Check.due("limit " + limit + ", no operation", diffOf(limit, 0), 0);
      Check.due("limit " + limit + ", one operation", diffOf(limit, 1), "IllegalStateException");
      Check.due("limit " + limit + ", 40 operations", diffOf(limit, 40), "IllegalStateException");
    }
    Check.due("limit 1, one operation", diffOf(1, 1), 1);
  }

  private static void limitIs40IfMore() {
    for (int limit : new int[] {40, 41, 42, 80, Integer.MAX_VALUE}) {
      Check.due("limit " + limit + ", no operation", diffOf(limit, 0), 0);
      Check.due("limit " + limit + ", 40 operations", diffOf(limit, 40), 40);
    }
    Check.due("limit 39, 39 operations", diffOf(39, 39), 39);
    Check.due("limit 39, 40 operations", diffOf(39, 40), "IllegalStateException");
  }

  private static void newRowsAreEmpty() {
    for (int limit : new int[] {Integer.MIN_VALUE, 0, 40, Integer.MAX_VALUE}) {
      DiffDesk desk = new DiffDesk(limit);
      for (int row = 0; row < 3; row++) {
        Check.due("size of new row " + row, desk.size(row), 0);
        Check.due("symbol of new row " + row, desk.symbol(row, 0), (short) -1);
        Check.due("new row " + row + " is like an empty one", desk.alike(row, row), 1.0f);
      }
    }
  }

  private static void newScriptsAreEmpty() {
    DiffDesk desk = new DiffDesk(40);
    Check.due("the script", Check.scriptOf(desk, 0), "");
    for (int n = 0; n <= 9; n++) {
      Check.due("hunks with " + n + " around", Check.hunksOf(desk, n), "");
    }
    Check.feed(desk, 0, 1, 2);
    Check.due("a patch by it", desk.patch(0), 2);
    Check.due("takes the row over", Check.resultOf(desk), "1 2");
    Check.load(desk, 1, 0, 7);
    Check.due("what is loaded first is operation 0", Check.scriptOf(desk, 1), "+0:7");
  }

  private static void newResultIsEmpty() {
    DiffDesk desk = new DiffDesk(40);
    Check.due("results", desk.results(), 0);
    Check.due("result(0)", desk.result(0), -40);
    Check.feed(desk, 0, 1);
    Check.due("results when a row has a symbol", desk.results(), 0);
  }

  private static void objectsAreApart() {
    DiffDesk one = Check.desk(40, Check.row(1), Check.row(2), Check.row(3));
    one.diff(0, 1);
    one.patch(0);
    String before = Check.stateOf(one);
    DiffDesk two = new DiffDesk(0);
    Check.due("another new object", Check.stateOf(two), Check.stateOf(new DiffDesk(40)));
    Check.feed(two, 0, 9, 9);
    two.load(1, 0, 5);
    two.merge();
    Check.due("the first object", Check.stateOf(one), before);
    Check.due("its LIMIT", one.diff(1, 0), 2);
  }

  private static void feedPutsToTheEnd() {
    DiffDesk desk = new DiffDesk(40);
    Check.feed(desk, 0, 4, 30000, 5, 5);
    Check.feed(desk, 1, 1);
    Check.feed(desk, 2, 2, 3);
    Check.feed(desk, 0, 0);
    Check.due("row 0", Check.rowOf(desk, 0), "4 30000 5 5 0");
    Check.due("row 1", Check.rowOf(desk, 1), "1");
    Check.due("row 2", Check.rowOf(desk, 2), "2 3");
  }

  private static void feedNoSuchRow() {
    DiffDesk desk = Check.desk(40, Check.row(7), Check.row(8), Check.row(9));
    for (int row : Check.NO_ROWS) {
      Check.dueAndNoChange("feed(" + row + ", 1)", false, desk, () -> desk.feed(row, (short) 1));
    }
    for (int row = 0; row < 3; row++) {
      Check.due("feed(" + row + ", 1)", desk.feed(row, (short) 1), true);
      Check.due("row " + row, Check.rowOf(desk, row), (7 + row) + " 1");
    }
  }

  private static void feedNoSuchSymbol() {
    for (int row = 0; row < 3; row++) {
      int to = row;
      DiffDesk desk = new DiffDesk(40);
      for (int symbol : new int[] {-1, 30001, Short.MIN_VALUE, Short.MAX_VALUE}) {
        Check.dueAndNoChange("feed of " + symbol, false, desk, () -> desk.feed(to, (short) symbol));
      }
      for (int symbol : new int[] {0, 1, 29999, 30000}) {
        Check.due("feed of " + symbol, desk.feed(to, (short) symbol), true);
      }
      Check.due("row " + row, Check.rowOf(desk, row), "0 1 29999 30000");
    }
  }

  private static void feedFullRow() {
    for (int row = 0; row < 3; row++) {
      int to = row;
      DiffDesk desk = new DiffDesk(40);
      for (int k = 1; k <= 20; k++) {
        Check.due("symbol number " + k + " to row " + row, desk.feed(row, (short) k), true);
      }
      Check.dueAndNoChange("symbol number 21", false, desk, () -> desk.feed(to, (short) 21));
      Check.dueAndNoChange("one more try", false, desk, () -> desk.feed(to, (short) 1));
      Check.due("row " + row, Check.rowOf(desk, row), Check.text(Check.range(1, 21)));
      Check.due("another row still has room", desk.feed((row + 1) % 3, (short) 5), true);
    }
  }

  private static void feedClearedRow() {
    DiffDesk desk = new DiffDesk(40);
    Check.feedSame(desk, 1, 6, 20);
    Check.due("the 21st", desk.feed(1, (short) 6), false);
    Check.due("clear", desk.clear(1), true);
    Check.feedSame(desk, 1, 7, 20);
    Check.due("the 21st again", desk.feed(1, (short) 7), false);
    Check.due("row 1", Check.rowOf(desk, 1), Check.text(Check.same(7, 20)));
  }

  private static void clearMakesEmpty() {
    for (int symbols : new int[] {1, 2, 19, 20}) {
      for (int row = 0; row < 3; row++) {
        DiffDesk desk = new DiffDesk(40);
        Check.feedSame(desk, row, 5, symbols);
        Check.due("clear of " + symbols, desk.clear(row), true);
        Check.due("its size", desk.size(row), 0);
        Check.due("its first symbol", desk.symbol(row, 0), (short) -1);
        Check.due("a patch of it", desk.patch(row), 0);
      }
    }
  }

  private static void clearEmptyRow() {
    DiffDesk desk = Check.desk(40, Check.row(1), Check.row(), Check.row());
    Check.dueAndNoChange("clear of a new row", true, desk, () -> desk.clear(1));
    desk.clear(0);
    Check.dueAndNoChange("clear of a cleared row", true, desk, () -> desk.clear(0));
  }

  private static void clearLeavesTheRest() {
    DiffDesk desk = Check.desk(40, Check.row(1, 2), Check.row(3, 4), Check.row(5));
    Check.due("diff(0, 2)", desk.diff(0, 2), 3);
    Check.due("patch(0)", desk.patch(0), 1);
    Check.due("clear(0)", desk.clear(0), true);
    Check.due("row 1", Check.rowOf(desk, 1), "3 4");
    Check.due("row 2", Check.rowOf(desk, 2), "5");
    Check.due("clear(2)", desk.clear(2), true);
    Check.due("row 1 again", Check.rowOf(desk, 1), "3 4");
    Check.due("the script", Check.scriptOf(desk, 3), "-0:1 -1:2 +2:5");
    Check.due("the result", Check.resultOf(desk), "5");
  }

  private static void clearNoSuchRow() {
    DiffDesk desk = Check.desk(40, Check.row(1, 2), Check.row(3, 4), Check.row(5));
    for (int row : Check.NO_ROWS) {
      Check.dueAndNoChange("clear(" + row + ")", false, desk, () -> desk.clear(row));
    }
    for (int row = 0; row < 3; row++) {
      Check.due("clear(" + row + ")", desk.clear(row), true);
    }
  }

  private static void sizeCounts() {
    for (int row = 0; row < 3; row++) {
      DiffDesk desk = new DiffDesk(40);
      for (int k = 0; k < 20; k++) {
        Check.due("size(" + row + ")", desk.size(row), k);
        desk.feed(row, (short) -1);
        Check.due("size behind a refused symbol", desk.size(row), k);
        Check.feed(desk, row, 3);
      }
      Check.due("size of a full row", desk.size(row), 20);
      desk.feed(row, (short) 3);
      Check.due("size behind the 21st", desk.size(row), 20);
      Check.due("size of another row", desk.size((row + 1) % 3), 0);
    }
  }

  private static void sizeNoSuchRow() {
    DiffDesk desk = Check.desk(40, Check.row(1, 2), Check.row(), Check.row(5));
    for (int row : Check.NO_ROWS) {
      Check.due("size(" + row + ")", desk.size(row), -1);
    }
    Check.due("size(0)", desk.size(0), 2);
    Check.due("size(2)", desk.size(2), 1);
  }

  private static void symbolIsThere() {
    DiffDesk desk = Check.desk(40, Check.row(0, 30000), Check.row(), Check.range(100, 120));
    Check.due("symbol(0, 0)", desk.symbol(0, 0), (short) 0);
    Check.due("symbol(0, 1)", desk.symbol(0, 1), (short) 30000);
    for (int k = 0; k < 20; k++) {
      Check.due("symbol(2, " + k + ")", desk.symbol(2, k), (short) (100 + k));
    }
  }

  // All rows are full or begun, so that a place outside one row may be a place of its neighbour.
  private static void symbolOutsideTheRow() {
    DiffDesk desk = Check.desk(40, Check.range(1, 21), Check.row(50, 51), Check.range(1, 21));
    for (int k : new int[] {-1, -20, 20, 21, 40, Integer.MIN_VALUE, Integer.MAX_VALUE}) {
      for (int row = 0; row < 3; row++) {
        Check.due("symbol(" + row + ", " + k + ")", desk.symbol(row, k), (short) -1);
      }
    }
    Check.due("the last of two", desk.symbol(1, 1), (short) 51);
    Check.due("behind the last of two", desk.symbol(1, 2), (short) -1);
    Check.due("the last of twenty", desk.symbol(0, 19), (short) 20);
  }

  private static void symbolOfAnEmptyRow() {
    DiffDesk desk = new DiffDesk(40);
    for (int row = 0; row < 3; row++) {
      for (int k : new int[] {-1, 0, 1, 19, 20}) {
        Check.due("symbol(" + row + ", " + k + ")", desk.symbol(row, k), (short) -1);
      }
      Check.feed(desk, row, 0);
      Check.due("symbol(" + row + ", 0) of one", desk.symbol(row, 0), (short) 0);
      Check.due("symbol(" + row + ", 1) of one", desk.symbol(row, 1), (short) -1);
    }
  }

  private static void symbolOfAClearedRow() {
    DiffDesk desk = Check.desk(40, Check.row(), Check.row(4, 5, 6), Check.row());
    desk.clear(1);
    for (int k = 0; k < 3; k++) {
      Check.due("symbol(1, " + k + ") behind clear", desk.symbol(1, k), (short) -1);
    }
    Check.feed(desk, 1, 8);
    Check.due("symbol(1, 0) fed anew", desk.symbol(1, 0), (short) 8);
    Check.due("symbol(1, 1) of before", desk.symbol(1, 1), (short) -1);
  }

  private static void symbolNoSuchRow() {
    DiffDesk desk = Check.desk(40, Check.row(1), Check.row(2), Check.row(3));
    for (int row : Check.NO_ROWS) {
      Check.due("symbol(" + row + ", 0)", desk.symbol(row, 0), (short) -1);
      Check.due("symbol(" + row + ", -1)", desk.symbol(row, -1), (short) -1);
    }
    Check.due("symbol(0, 0)", desk.symbol(0, 0), (short) 1);
    Check.due("symbol(2, 0)", desk.symbol(2, 0), (short) 3);
  }
}
