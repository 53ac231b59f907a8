/** Promises 10, 12 and 13 for patches: patch, result, results. */
public final class PatchTest {
  private static final Class<IllegalArgumentException> ARGUMENT = IllegalArgumentException.class;
  private static final Class<IndexOutOfBoundsException> PLACE = IndexOutOfBoundsException.class;
  private static final Class<IllegalStateException> STATE = IllegalStateException.class;
  private static final Class<UnsupportedOperationException> LONG = UnsupportedOperationException.class;

  public static void main(String[] args) {
    patches();
    patchesAnyRow();
    noSuchRow();
    wrongKindOrSymbol();
    wrongPlace();
    placesThatGoBack();
    anotherSymbol();
    tooLong();
    tooLongAtAnOperationComesBeforeLaterFaults();
    firstFaultCounts();
    whatThrowsChangesNothing();
    resultEdges();
    Check.end("PatchTest");
  }

  private static DiffDesk desk() {
    return Check.desk(40, Check.row(1, 2, 3), Check.row(), Check.row());
  }

  private static void load(DiffDesk desk, int... parts) {
    for (int k = 0; k + 2 < parts.length; k += 3) {
      Check.due("load", desk.load(parts[k], parts[k + 1], parts[k + 2]), true);
    }
  }

  private static void duePatched(String want, int... parts) {
    DiffDesk desk = desk();
    load(desk, parts);
    int size = want.isEmpty() ? 0 : want.split(" ").length;
    Check.due("patch to " + want, Check.outcome(() -> desk.patch(0)), size);
    Check.due("results", desk.results(), size);
    Check.due("result", Check.resultOf(desk), want);
    Check.due("the row stays", Check.rowOf(desk, 0), "1 2 3");
  }

  private static void dueThrown(Class<? extends RuntimeException> want, int... parts) {
    DiffDesk desk = desk();
    load(desk, parts);
    Check.dueThrow("patch by " + java.util.Arrays.toString(parts), want, () -> desk.patch(0));
  }

  private static void patches() {
    duePatched("1 2 3");
    duePatched("2 3", 0, 0, 1);
    duePatched("1 3", 0, 1, 2);
    duePatched("1 2", 0, 2, 3);
    duePatched("", 0, 0, 1, 0, 1, 2, 0, 2, 3);
    duePatched("9 1 2 3", 1, 0, 9);
    duePatched("1 2 3 9", 1, 3, 9);
    duePatched("1 9 8 2 3", 1, 1, 9, 1, 1, 8);
    duePatched("1 9 3", 1, 1, 9, 0, 1, 2);
    duePatched("1 9 3", 0, 1, 2, 1, 2, 9);
    duePatched("0 2 30000 3", 1, 0, 0, 0, 0, 1, 1, 2, 30000);
  }

  private static void patchesAnyRow() {
    DiffDesk desk = Check.desk(40, Check.row(1, 2, 3), Check.row(4), Check.row(5, 6));
    load(desk, 1, 1, 9);
    Check.due("patch(1)", desk.patch(1), 2);
    Check.due("row 1 patched", Check.resultOf(desk), "4 9");
    Check.due("patch(2)", desk.patch(2), 3);
    Check.due("row 2 patched", Check.resultOf(desk), "5 9 6");
    Check.due("script stays", Check.scriptOf(desk, 1), "+1:9");
  }

  private static void noSuchRow() {
    for (int row : new int[] {-1, 3, Integer.MIN_VALUE, Integer.MAX_VALUE}) {
      DiffDesk desk = desk();
      Check.dueThrow("patch(" + row + ")", ARGUMENT, () -> desk.patch(row));
      load(desk, 0, 9, 1);
      Check.dueThrow("patch(" + row + ") by a wrong script", ARGUMENT, () -> desk.patch(row));
    }
  }

  private static void wrongKindOrSymbol() {
    for (int kind : new int[] {-1, 2, Integer.MIN_VALUE, Integer.MAX_VALUE}) {
      dueThrown(ARGUMENT, kind, 0, 1);
    }
    for (int symbol : new int[] {-1, 30001, 65537, Integer.MIN_VALUE, Integer.MAX_VALUE}) {
      dueThrown(ARGUMENT, 0, 0, symbol);
      dueThrown(ARGUMENT, 1, 0, symbol);
    }
  }

  private static void wrongPlace() {
    for (int place : new int[] {-1, 4, Integer.MIN_VALUE, Integer.MAX_VALUE}) {
      dueThrown(PLACE, 0, place, 1);
      dueThrown(PLACE, 1, place, 1);
    }
    dueThrown(PLACE, 0, 3, 3);
    DiffDesk empty = new DiffDesk(40);
    load(empty, 0, 0, 0);
    Check.dueThrow("deleting from an empty row", PLACE, () -> empty.patch(1));
    empty.forget();
    load(empty, 1, 0, 6);
    Check.due("inserting to an empty row", empty.patch(1), 1);
    // Row 0 is longer than row 1: the place must be looked for in the row that is patched.
    DiffDesk shorter = Check.desk(40, Check.row(1, 2, 3), Check.row(1), Check.row());
    load(shorter, 1, 2, 6);
    Check.dueThrow("a place of another row", PLACE, () -> shorter.patch(1));
  }

  private static void placesThatGoBack() {
    dueThrown(PLACE, 1, 2, 9, 1, 1, 9);
    dueThrown(PLACE, 1, 2, 9, 0, 1, 2);
    dueThrown(PLACE, 0, 1, 2, 0, 0, 1);
    dueThrown(PLACE, 0, 1, 2, 0, 1, 2);
    dueThrown(PLACE, 0, 1, 2, 1, 1, 9);
    dueThrown(PLACE, 0, 2, 3, 1, 2, 9);
    dueThrown(PLACE, 1, 3, 9, 0, 0, 1);
  }

  private static void anotherSymbol() {
    dueThrown(STATE, 0, 0, 2);
    dueThrown(STATE, 0, 2, 30000);
    dueThrown(STATE, 0, 0, 1, 0, 1, 3);
  }

  private static void tooLong() {
    for (int place : new int[] {0, 10, 20}) {
      DiffDesk desk = fullRowAndInsertions(place, 40);
      Check.due("60 symbols", desk.patch(0), 60);
      Check.due("the last of 60", desk.result(59), place == 20 ? 39 : 7);
      load(desk, 1, place, 40);
      Check.dueThrow("61 symbols, inserted at " + place, LONG, () -> desk.patch(0));
      Check.due("the result after it", desk.results(), 60);
      if (place < 20) {
        load(desk, 0, 19, 7);
        Check.due("a deletion makes room", desk.patch(0), 60);
      }
    }
    DiffDesk full = new DiffDesk(40);
    for (int k = 0; k < 60; k++) {
      load(full, 1, 0, 5);
    }
    Check.due("60 insertions to an empty row", full.patch(2), 60);
    Check.feed(full, 2, 1);
    Check.dueThrow("60 insertions to a row of one", LONG, () -> full.patch(2));
  }

  // The document calls the first operation for which something is wrong: that is taken to hold for
  // the operation too which would put the 61st symbol to the result.
  private static void tooLongAtAnOperationComesBeforeLaterFaults() {
    DiffDesk desk = fullRowAndInsertions(20, 41);
    load(desk, 5, 0, 0);
    Check.dueThrow("61st symbol, then a wrong kind", LONG, () -> desk.patch(0));
    DiffDesk late = fullRowAndInsertions(0, 41);
    load(late, 0, 20, 7);
    Check.dueThrow("a wrong place before the 61st symbol", PLACE, () -> late.patch(0));
    DiffDesk same = fullRowAndInsertions(0, 50);
    load(same, 0, 19, 6);
    Check.dueThrow("another symbol and too long at once", STATE, () -> same.patch(0));
  }

  /** Row 0 has 20 times 7, and the script inserts 0, 1, 2 .. at a place. */
  private static DiffDesk fullRowAndInsertions(int place, int times) {
    DiffDesk desk = new DiffDesk(40);
    Check.feedSame(desk, 0, 7, 20);
    for (int k = 0; k < times; k++) {
      load(desk, 1, place, k);
    }
    return desk;
  }

  private static void firstFaultCounts() {
    dueThrown(ARGUMENT, 2, 9, -1);
    dueThrown(ARGUMENT, 0, 9, -1);
    dueThrown(ARGUMENT, 1, 2, 9, 1, 0, 30001);
    dueThrown(PLACE, 1, 2, 9, 0, 0, 2);
    dueThrown(PLACE, 0, 9, 1, 2, 0, 0);
    dueThrown(STATE, 0, 0, 2, 0, 9, 1);
    dueThrown(STATE, 0, 0, 2, 7, 0, 0);
    dueThrown(PLACE, 1, 0, 9, 1, 9, 9, 0, 0, 2);
  }

  private static void whatThrowsChangesNothing() {
    DiffDesk desk = desk();
    load(desk, 1, 0, 9);
    desk.patch(0);
    load(desk, 0, 0, 1, 0, 1, 5);
    Check.dueThrow("patch", STATE, () -> desk.patch(0));
    Check.due("result after a throw", Check.resultOf(desk), "9 1 2 3");
    Check.due("row after a throw", Check.rowOf(desk, 0), "1 2 3");
    Check.due("script after a throw", Check.scriptOf(desk, 3), "+0:9 -0:1 -1:5");
    Check.dueThrow("patch", ARGUMENT, () -> desk.patch(3));
    Check.due("result after another throw", Check.resultOf(desk), "9 1 2 3");
  }

  private static void resultEdges() {
    DiffDesk desk = desk();
    desk.patch(0);
    for (int k : new int[] {-1, 3, 60, 1000, Integer.MIN_VALUE, Integer.MAX_VALUE}) {
      Check.due("result(" + k + ")", desk.result(k), -40);
    }
    desk.clear(0);
    Check.due("the result stays as the row goes", Check.resultOf(desk), "1 2 3");
    desk.patch(0);
    Check.due("the latest patch counts", desk.results(), 0);
    Check.due("nothing left of the one before", desk.result(0), -40);
  }
}
