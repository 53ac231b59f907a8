/** Promises 6 to 9: diff, operation, forget, load. */
public final class ScriptTest {
  public static void main(String[] args) {
    Check.holds("6: The script becomes the least one from row a to row b", ScriptTest::diffMakesTheLeastScript);
    Check.holds("6: (the script before, a longer or a full one, is gone)", ScriptTest::diffReplacesTheScript);
    Check.holds("6: (the rows as they are then)", ScriptTest::diffTakesTheRowsAsTheyAre);
    Check.holds("6: how many operations it has", ScriptTest::diffCountsOperations);
    Check.holds("6: IllegalArgumentException if there is no such row", ScriptTest::diffNoSuchRow);
    Check.holds("6: IllegalStateException if they are more than LIMIT", ScriptTest::diffMoreThanLimit);
    Check.holds("6: (no such row, and more than LIMIT)", ScriptTest::diffNoSuchRowAndLimit);
    Check.holds("7: what 0 its kind, 1 its place, 2 its symbol", ScriptTest::operationTells);
    Check.holds("7: NONE if there is no such one", ScriptTest::operationNoSuchOne);
    Check.holds("7: NONE if there is no such .. what", ScriptTest::operationNoSuchWhat);
    Check.holds("8: The script becomes empty", ScriptTest::forgetMakesEmpty);
    Check.holds("8: (the script alone)", ScriptTest::forgetLeavesTheRest);
    Check.holds("9: An operation at the end of the script: true", ScriptTest::loadPutsToTheEnd);
    Check.holds("9: False if it has 60 operations", ScriptTest::loadFullScript);
    Check.holds("9: False if it has 60 operations (those of diff count)", ScriptTest::loadBehindDiff);
    Check.holds("9: (It may be any.)", ScriptTest::loadAny);
    Check.end("ScriptTest");
  }

  private static void diffMakesTheLeastScript() {
    Check.dueScript(Check.row(1, 2), Check.row(1, 2), "");
    Check.dueScript(Check.row(1, 2, 3), Check.row(1, 3), "-1:2");
    Check.dueScript(Check.row(1, 3), Check.row(1, 2, 3), "+1:2");
    Check.dueScript(Check.row(1, 2, 3), Check.row(1, 9, 3), "-1:2 +2:9");
    Check.dueScript(Check.row(1, 2, 3, 1, 2, 2, 1), Check.row(3, 2, 1, 2, 1, 3), "-0:1 -1:2 -3:1 +5:1 +7:3");
    DiffDesk desk = Check.desk(40, Check.row(1, 2, 3), Check.row(4), Check.row(3));
    Check.due("diff(1, 2)", desk.diff(1, 2), 2);
    Check.due("from 1 to 2", Check.scriptOf(desk, 2), "-0:4 +1:3");
    Check.due("diff(2, 0)", desk.diff(2, 0), 2);
    Check.due("from 2 to 0", Check.scriptOf(desk, 2), "+0:1 +0:2");
    Check.due("diff(0, 2)", desk.diff(0, 2), 2);
    Check.due("from 0 to 2", Check.scriptOf(desk, 2), "-0:1 -1:2");
  }

  private static void diffReplacesTheScript() {
    DiffDesk desk = Check.desk(40, Check.row(1, 2), Check.row(3), Check.row(1));
    Check.due("three operations", desk.diff(0, 1), 3);
    Check.due("one operation", desk.diff(0, 2), 1);
    Check.due("no more of the three", Check.scriptOf(desk, 1), "-1:2");
    for (int k = 1; k < 60; k++) {
      Check.load(desk, 1, 0, k);
    }
    Check.due("diff on a full script", desk.diff(0, 1), 3);
    Check.due("no more of the sixty", Check.scriptOf(desk, 3), "-0:1 -1:2 +2:3");
    Check.due("diff without operations", desk.diff(2, 2), 0);
    Check.due("no more of the three again", Check.scriptOf(desk, 0), "");
  }

  private static void diffTakesTheRowsAsTheyAre() {
    DiffDesk desk = Check.desk(40, Check.row(1, 2, 3), Check.row(4), Check.row());
    desk.clear(0);
    Check.due("a cleared row's symbols are gone", desk.diff(0, 1), 1);
    Check.due("from 0 to 1", Check.scriptOf(desk, 1), "+0:4");
    Check.feed(desk, 0, 4);
    Check.due("a symbol fed counts", desk.diff(0, 1), 0);
    Check.due("the script made before is replaced", Check.scriptOf(desk, 0), "");
    Check.due("diff leaves the rows", Check.rowOf(desk, 0) + "/" + Check.rowOf(desk, 1), "4/4");
    Check.due("diff leaves the result", desk.results(), 0);
  }

  private static void diffCountsOperations() {
    for (int kept = 0; kept <= 20; kept++) {
      int[] both = Check.range(0, kept);
      int[] a = Check.join(both, Check.same(100, 20 - kept));
      int[] b = Check.join(both, Check.same(200, 20 - kept));
      DiffDesk desk = Check.desk(40, a, b, Check.row());
      Check.due("diff(0, 1) with " + kept + " kept", desk.diff(0, 1), 40 - 2 * kept);
      Check.due("diff(0, 0)", desk.diff(0, 0), 0);
      Check.due("diff(0, 2) to an empty row", desk.diff(0, 2), 20);
      Check.due("diff(2, 1) from an empty row", desk.diff(2, 1), 20);
      Check.due("diff(2, 2) of an empty row", desk.diff(2, 2), 0);
    }
  }

  private static void diffNoSuchRow() {
    DiffDesk desk = Check.desk(40, Check.row(1), Check.row(2), Check.row());
    desk.diff(0, 1);
    for (int row : Check.NO_ROWS) {
      for (int there = 0; there < 3; there++) {
        int other = there;
        Check.dueThrowAndNoChange("diff(" + row + ", " + other + ")", IllegalArgumentException.class, desk,
            () -> desk.diff(row, other));
        Check.dueThrowAndNoChange("diff(" + other + ", " + row + ")", IllegalArgumentException.class, desk,
            () -> desk.diff(other, row));
      }
      Check.dueThrow("diff twice " + row, IllegalArgumentException.class, () -> desk.diff(row, row));
    }
    for (int a = 0; a < 3; a++) {
      for (int b = 0; b < 3; b++) {
        int from = a;
        int to = b;
        int due = a == b ? 0 : a == 2 || b == 2 ? 1 : 2;
        Check.due("diff(" + a + ", " + b + ")", Check.outcome(() -> desk.diff(from, to)), due);
      }
    }
  }

  // The rows are longer than LIMIT, for it is the operations that count.
  private static void diffMoreThanLimit() {
    int[] base = Check.range(1, 20);
    DiffDesk desk = Check.desk(2, base, base, Check.range(1, 18));
    Check.due("no operation", desk.diff(0, 1), 0);
    Check.due("two deletions", desk.diff(0, 2), 2);
    Check.due("two insertions", desk.diff(2, 0), 2);
    Check.feed(desk, 1, 90);
    Check.due("one insertion", desk.diff(0, 1), 1);
    Check.dueThrowAndNoChange("three insertions", IllegalStateException.class, desk, () -> desk.diff(2, 1));
    Check.dueThrowAndNoChange("three deletions", IllegalStateException.class, desk, () -> desk.diff(1, 2));
    DiffDesk strict = Check.desk(0, Check.row(1), Check.row(), Check.row(1));
    Check.dueThrow("one deletion, LIMIT 0", IllegalStateException.class, () -> strict.diff(0, 1));
    Check.dueThrow("one insertion, LIMIT 0", IllegalStateException.class, () -> strict.diff(1, 0));
    Check.due("no operation, LIMIT 0", strict.diff(0, 2), 0);
  }

  private static void diffNoSuchRowAndLimit() {
    DiffDesk desk = Check.desk(0, Check.row(1), Check.row(2), Check.row());
    Check.dueThrow("diff(0, 3)", IllegalArgumentException.class, () -> desk.diff(0, 3));
    Check.dueThrow("diff(-1, 1)", IllegalArgumentException.class, () -> desk.diff(-1, 1));
    Check.dueThrow("diff(0, 1)", IllegalStateException.class, () -> desk.diff(0, 1));
  }

  private static void operationTells() {
    DiffDesk desk = Check.desk(40, Check.row(1, 2), Check.row(1, 9), Check.row());
    desk.diff(0, 1);
    Check.due("operation(0, 0)", desk.operation(0, 0), 0);
    Check.due("operation(0, 1)", desk.operation(0, 1), 1);
    Check.due("operation(0, 2)", desk.operation(0, 2), 2);
    Check.due("operation(1, 0)", desk.operation(1, 0), 1);
    Check.due("operation(1, 1)", desk.operation(1, 1), 2);
    Check.due("operation(1, 2)", desk.operation(1, 2), 9);
  }

  /** Asks for operations before the first and behind the last one, and for the last one itself. */
  private static void dueOperations(DiffDesk desk, int operations) {
    for (int what = 0; what < 3; what++) {
      for (int k : new int[] {-1, operations, operations + 1, 60, 61, Integer.MIN_VALUE, Integer.MAX_VALUE}) {
        Check.due("operation(" + k + ", " + what + ") of " + operations, desk.operation(k, what), -1);
      }
      if (operations > 0) {
        Check.due("operation 0 is there", desk.operation(0, what) != -1, true);
        Check.due("operation " + (operations - 1) + " is there", desk.operation(operations - 1, what) != -1, true);
      }
    }
  }

  private static void operationNoSuchOne() {
    DiffDesk desk = Check.desk(40, Check.same(1, 20), Check.same(2, 20), Check.row());
    dueOperations(desk, 0);
    desk.diff(0, 2);
    dueOperations(desk, 20);
    desk.diff(0, 1);
    dueOperations(desk, 40);
    for (int k = 41; k <= 60; k++) {
      Check.load(desk, 1, k, k);
      dueOperations(desk, k);
    }
    desk.forget();
    dueOperations(desk, 0);
    Check.load(desk, 0, 0, 0);
    dueOperations(desk, 1);
  }

  private static void operationNoSuchWhat() {
    DiffDesk desk = new DiffDesk(40);
    Check.load(desk, 7, 8, 9);
    for (int what : new int[] {-1, 3, 4, Integer.MIN_VALUE, Integer.MAX_VALUE}) {
      Check.due("operation(0, " + what + ")", desk.operation(0, what), -1);
      Check.due("operation(1, " + what + ")", desk.operation(1, what), -1);
    }
    Check.due("operation(0, 0)", desk.operation(0, 0), 7);
    Check.due("operation(0, 2)", desk.operation(0, 2), 9);
  }

  private static void forgetMakesEmpty() {
    for (int operations : new int[] {0, 1, 59, 60}) {
      DiffDesk desk = new DiffDesk(40);
      for (int k = 0; k < operations; k++) {
        Check.load(desk, 1, 0, k);
      }
      desk.forget();
      Check.due("a script of " + operations + " forgotten", Check.scriptOf(desk, 0), "");
      Check.due("a patch by it", desk.patch(0), 0);
      Check.load(desk, 1, 0, 4);
      Check.due("what is loaded then comes first", Check.scriptOf(desk, 1), "+0:4");
    }
  }

  private static void forgetLeavesTheRest() {
    DiffDesk desk = Check.desk(40, Check.row(1, 2), Check.row(1, 9), Check.row(3));
    desk.diff(0, 1);
    desk.patch(0);
    desk.forget();
    Check.due("the result", Check.resultOf(desk), "1 9");
    Check.due("the hunks", Check.hunksOf(desk, 0), "1,1,1,1");
    Check.due("row 0", Check.rowOf(desk, 0), "1 2");
    Check.due("row 1", Check.rowOf(desk, 1), "1 9");
    Check.due("row 2", Check.rowOf(desk, 2), "3");
  }

  private static void loadPutsToTheEnd() {
    DiffDesk desk = Check.desk(40, Check.row(1), Check.row(), Check.row());
    Check.due("load to an empty script", desk.load(1, 0, 5), true);
    Check.due("load behind it", desk.load(0, 0, 1), true);
    Check.due("both", Check.scriptOf(desk, 2), "+0:5 -0:1");
    desk.diff(0, 1);
    Check.due("load behind diff", desk.load(1, 1, 6), true);
    Check.due("behind the operation of diff", Check.scriptOf(desk, 2), "-0:1 +1:6");
  }

  private static void loadFullScript() {
    DiffDesk desk = new DiffDesk(0);
    for (int k = 1; k <= 60; k++) {
      Check.due("load number " + k, desk.load(1, 0, k), true);
    }
    Check.dueAndNoChange("load number 61", false, desk, () -> desk.load(0, 1, 61));
    Check.dueAndNoChange("one more try", false, desk, () -> desk.load(1, 0, 1));
    Check.due("the 60th", desk.operation(59, 2), 60);
    Check.due("no 61st", desk.operation(60, 2), -1);
    desk.forget();
    Check.due("room again", desk.load(0, 1, 2), true);
  }

  private static void loadBehindDiff() {
    DiffDesk desk = Check.desk(40, Check.same(1, 20), Check.same(2, 20), Check.row());
    desk.diff(0, 1);
    for (int k = 41; k <= 60; k++) {
      Check.due("load number " + k, desk.load(1, 20, k), true);
    }
    Check.dueAndNoChange("load number 61", false, desk, () -> desk.load(1, 20, 61));
    desk.diff(0, 2);
    Check.due("room behind a shorter script", desk.load(1, 20, 61), true);
  }

  private static void loadAny() {
    int[] any = {Integer.MIN_VALUE, -40, -1, 0, 1, 2, 20, 30000, 30001, 65536, Integer.MAX_VALUE};
    DiffDesk desk = new DiffDesk(0);
    for (int k = 0; k < any.length; k++) {
      int kind = any[k];
      int place = any[(k + 3) % any.length];
      int symbol = any[(k + 7) % any.length];
      Check.due("load", desk.load(kind, place, symbol), true);
      Check.due("its kind", desk.operation(k, 0), kind);
      Check.due("its place", desk.operation(k, 1), place);
      Check.due("its symbol", desk.operation(k, 2), symbol);
    }
  }
}
