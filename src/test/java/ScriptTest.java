/** Promises 6 to 9: diff, operation, forget, load. */
public final class ScriptTest {
  public static void main(String[] args) {
    promise6LeastScripts();
    promise6DeletesBeforeInserts();
    promise6InsertsWhereDeletingDoesNotHelp();
    promise6WrongRows();
    promise6Limit();
    promise6FullRows();
    promise6TakesTheRowsAsTheyAre();
    promise7Operation();
    promise8Forget();
    promise9Load();
    promise9LoadUpTo60();
    Check.end("ScriptTest");
  }

  private static void dueScript(int[] a, int[] b, String want) {
    DiffDesk desk = Check.desk(40, a, b, Check.row());
    int operations = want.isEmpty() ? 0 : want.split(" ").length;
    Check.due("diff for " + want, desk.diff(0, 1), operations);
    Check.due("script", Check.scriptOf(desk, operations), want);
  }

  private static void promise6LeastScripts() {
    dueScript(Check.row(), Check.row(), "");
    dueScript(Check.row(1, 2), Check.row(1, 2), "");
    dueScript(Check.row(1, 2), Check.row(), "-0:1 -1:2");
    dueScript(Check.row(), Check.row(1, 2), "+0:1 +0:2");
    dueScript(Check.row(1, 2, 3), Check.row(1, 3), "-1:2");
    dueScript(Check.row(1, 3), Check.row(1, 2, 3), "+1:2");
    dueScript(Check.row(1), Check.row(1, 2), "+1:2");
    dueScript(Check.row(1, 2, 3, 1, 2, 2, 1), Check.row(3, 2, 1, 2, 1, 3), "-0:1 -1:2 -3:1 +5:1 +7:3");
  }

  private static void promise6DeletesBeforeInserts() {
    dueScript(Check.row(1), Check.row(2), "-0:1 +1:2");
    dueScript(Check.row(1, 2), Check.row(2, 1), "-0:1 +2:1");
    dueScript(Check.row(1, 2, 3), Check.row(1, 9, 3), "-1:2 +2:9");
  }

  private static void promise6InsertsWhereDeletingDoesNotHelp() {
    dueScript(Check.row(1, 2, 3), Check.row(9, 1, 2, 3), "+0:9");
    dueScript(Check.row(1, 2, 3), Check.row(2, 3, 1, 2, 3), "+0:2 +0:3");
  }

  private static void promise6WrongRows() {
    DiffDesk desk = Check.desk(40, Check.row(1), Check.row(2), Check.row());
    desk.diff(0, 1);
    for (int row : new int[] {-1, 3, Integer.MIN_VALUE, Integer.MAX_VALUE}) {
      Check.dueThrow("diff(" + row + ", 0)", IllegalArgumentException.class, () -> desk.diff(row, 0));
      Check.dueThrow("diff(2, " + row + ")", IllegalArgumentException.class, () -> desk.diff(2, row));
      Check.dueThrow("diff twice " + row, IllegalArgumentException.class, () -> desk.diff(row, row));
    }
    Check.due("script after wrong rows", Check.scriptOf(desk, 2), "-0:1 +1:2");
    Check.due("hunks after wrong rows", Check.hunksOf(desk, 0), "0,1,1,1");
  }

  private static void promise6Limit() {
    DiffDesk desk = Check.desk(2, Check.row(1, 5), Check.row(2, 5), Check.row(7, 8, 5));
    Check.due("as many as LIMIT", desk.diff(0, 1), 2);
    Check.dueThrow("more than LIMIT", IllegalStateException.class, () -> desk.diff(0, 2));
    Check.due("script after too many", Check.scriptOf(desk, 2), "-0:1 +1:2");
    Check.due("hunks after too many", Check.hunksOf(desk, 1), "0,2,1,1");
    Check.dueThrow("a wrong row comes first", IllegalArgumentException.class, () -> new DiffDesk(0).diff(0, 9));
    DiffDesk strict = Check.desk(0, Check.row(1), Check.row(), Check.row(1));
    Check.dueThrow("one operation with LIMIT 0", IllegalStateException.class, () -> strict.diff(0, 1));
    Check.due("no operation with LIMIT 0", strict.diff(0, 2), 0);
  }

  private static void promise6FullRows() {
    DiffDesk desk = new DiffDesk(40);
    Check.feedSame(desk, 0, 1, 20);
    Check.feedSame(desk, 1, 2, 20);
    Check.due("diff of full rows", desk.diff(0, 1), 40);
    Check.due("its last deletion", desk.operation(19, 0) + " " + desk.operation(19, 1), "0 19");
    Check.due("its last insertion", desk.operation(39, 0) + " " + desk.operation(39, 1), "1 20");
    Check.due("diff of a full row to itself", desk.diff(1, 1), 0);
  }

  private static void promise6TakesTheRowsAsTheyAre() {
    DiffDesk desk = Check.desk(40, Check.row(1, 2, 3), Check.row(4), Check.row(3));
    Check.due("diff(1, 2)", desk.diff(1, 2), 2);
    Check.due("from 1 to 2", Check.scriptOf(desk, 2), "-0:4 +1:3");
    Check.due("diff(2, 0)", desk.diff(2, 0), 2);
    Check.due("from 2 to 0", Check.scriptOf(desk, 2), "+0:1 +0:2");
    desk.clear(0);
    Check.due("a cleared row's old symbols are gone", desk.diff(0, 1), 1);
    Check.due("from 0 to 1", Check.scriptOf(desk, 1), "+0:4");
    Check.due("diff leaves the rows", Check.rowOf(desk, 1) + "/" + Check.rowOf(desk, 2), "4/3");
    Check.due("diff leaves the result", desk.results(), 0);
  }

  private static void promise7Operation() {
    DiffDesk desk = Check.desk(40, Check.row(1, 2), Check.row(1, 9), Check.row());
    desk.diff(0, 1);
    for (int k : new int[] {-1, 2, 60, Integer.MIN_VALUE, Integer.MAX_VALUE}) {
      for (int what = 0; what < 3; what++) {
        Check.due("operation(" + k + ", " + what + ")", desk.operation(k, what), -1);
      }
    }
    for (int what : new int[] {-1, 3, Integer.MIN_VALUE, Integer.MAX_VALUE}) {
      Check.due("operation(0, " + what + ")", desk.operation(0, what), -1);
    }
    Check.due("operation(1, 0)", desk.operation(1, 0), 1);
    Check.due("operation(1, 1)", desk.operation(1, 1), 2);
    Check.due("operation(1, 2)", desk.operation(1, 2), 9);
  }

  private static void promise8Forget() {
    DiffDesk desk = Check.desk(40, Check.row(1, 2), Check.row(1, 9), Check.row());
    desk.diff(0, 1);
    desk.patch(0);
    desk.forget();
    Check.due("a forgotten script", Check.scriptOf(desk, 0), "");
    Check.due("the result is not forgotten", Check.resultOf(desk), "1 9");
    Check.due("patch by a forgotten script", desk.patch(0), 2);
    Check.due("it changes nothing", Check.resultOf(desk), "1 2");
    desk.forget();
    Check.due("load behind forget", desk.load(1, 0, 4), true);
    Check.due("script loaded", Check.scriptOf(desk, 1), "+0:4");
  }

  private static void promise9Load() {
    DiffDesk desk = Check.desk(40, Check.row(1), Check.row(), Check.row());
    desk.diff(0, 1);
    Check.due("any operation", desk.load(Integer.MIN_VALUE, Integer.MAX_VALUE, -7), true);
    Check.due("kind", desk.operation(1, 0), Integer.MIN_VALUE);
    Check.due("place", desk.operation(1, 1), Integer.MAX_VALUE);
    Check.due("symbol", desk.operation(1, 2), -7);
    Check.due("the operation of diff before it", desk.operation(0, 2), 1);
    Check.due("diff puts another script there", desk.diff(1, 0), 1);
    Check.due("without what was loaded", Check.scriptOf(desk, 1), "+0:1");
  }

  private static void promise9LoadUpTo60() {
    DiffDesk desk = new DiffDesk(0);
    for (int k = 0; k < 60; k++) {
      Check.due("load " + k, desk.load(1, 0, k), true);
    }
    Check.due("load of the 61st", desk.load(0, 1, 2), false);
    Check.due("the 60th", desk.operation(59, 2), 59);
    Check.due("no 61st", desk.operation(60, 0), -1);
    desk.forget();
    Check.due("room again", desk.load(0, 1, 2), true);
    DiffDesk mixed = new DiffDesk(40);
    Check.feedSame(mixed, 0, 1, 20);
    Check.feedSame(mixed, 1, 2, 20);
    mixed.diff(0, 1);
    for (int k = 0; k < 20; k++) {
      Check.due("load behind diff", mixed.load(1, 20, 3), true);
    }
    Check.due("load behind 40 of diff and 20 loaded", mixed.load(1, 20, 3), false);
    Check.due("diff replaces 60", mixed.diff(0, 0), 0);
    Check.due("script replaced", Check.scriptOf(mixed, 0), "");
  }
}
