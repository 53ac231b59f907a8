import java.util.Arrays;

/** Promise 10: patch. */
public final class PatchTest {
  private static final Class<IllegalArgumentException> ARGUMENT = IllegalArgumentException.class;
  private static final Class<IndexOutOfBoundsException> PLACE = IndexOutOfBoundsException.class;
  private static final Class<IllegalStateException> STATE = IllegalStateException.class;
  private static final Class<UnsupportedOperationException> LONG = UnsupportedOperationException.class;

  public static void main(String[] args) {
    Check.holds("10: Patches a row by the script", PatchTest::patches);
    Check.holds("10: Patches a row (each of them)", PatchTest::patchesEachRow);
    Check.holds("10: (the script that diff made turns row a into row b)", PatchTest::patchesByDiff);
    Check.holds("10: the size of the result", PatchTest::answersTheSize);
    Check.holds("10: IllegalArgumentException if there is no such row", PatchTest::noSuchRow);
    Check.holds("10: or an operation has another kind than 0 and 1", PatchTest::anotherKind);
    Check.holds("10: or no symbol", PatchTest::noSymbol);
    Check.holds("10: IndexOutOfBoundsException if one has a place that the row has not", PatchTest::placeOfDelete);
    Check.holds("10: (an INSERT may have its end)", PatchTest::placeOfInsert);
    Check.holds("10: (a place of another row, longer or shorter)", PatchTest::placeOfAnotherRow);
    Check.holds("10: or below that of the operation before", PatchTest::placeBelow);
    Check.holds("10: (or not above it, if that deletes)", PatchTest::placeNotAboveADeletion);
    Check.holds("10: IllegalStateException if a symbol deleted is another one there", PatchTest::anotherSymbol);
    Check.holds("10: UnsupportedOperationException if the result would have more than 60", PatchTest::moreThan60);
    Check.holds("10: (a deletion makes room for one symbol more)", PatchTest::deletionMakesRoom);
    Check.holds("10: The first operation for which something is wrong counts", PatchTest::firstOperationCounts);
    Check.holds("10: (also the one that puts the 61st symbol: the README's choice)", PatchTest::the61stSymbolCounts);
    Check.holds("10: of what is wrong with it the one named first", PatchTest::namedFirst);
    Check.end("PatchTest");
  }

  private static DiffDesk deskOf(int... row) {
    return Check.desk(40, row, Check.row(), Check.row());
  }

  private static void duePatched(String want, int[] row, int... parts) {
    DiffDesk desk = deskOf(row);
    Check.load(desk, parts);
    int size = want.isEmpty() ? 0 : want.split(" ").length;
    Check.due("patch by " + Arrays.toString(parts), Check.outcome(() -> desk.patch(0)), size);
    Check.due("results", desk.results(), size);
    Check.due("result", Check.resultOf(desk), want);
    Check.due("the row stays", Check.rowOf(desk, 0), Check.text(row));
  }

  private static void dueThrown(Class<? extends RuntimeException> want, int[] row, int... parts) {
    DiffDesk desk = deskOf(row);
    Check.load(desk, parts);
    Check.dueThrow("patch by " + Arrays.toString(parts), want, () -> desk.patch(0));
  }

  private static void patches() {
    int[] row = Check.row(1, 2, 3);
    duePatched("1 2 3", row);
    duePatched("2 3", row, 0, 0, 1);
    duePatched("1 3", row, 0, 1, 2);
    duePatched("1 9 8 2 3", row, 1, 1, 9, 1, 1, 8);
    duePatched("1 9 3", row, 1, 1, 9, 0, 1, 2);
    duePatched("1 9 3", row, 0, 1, 2, 1, 2, 9);
    duePatched("0 2 30000 3", row, 1, 0, 0, 0, 0, 1, 1, 2, 30000);
  }

  private static void patchesEachRow() {
    DiffDesk desk = Check.desk(40, Check.row(1, 2, 3), Check.row(4), Check.row(5, 6));
    Check.load(desk, 1, 1, 9);
    Check.due("patch(0)", desk.patch(0), 4);
    Check.due("row 0 patched", Check.resultOf(desk), "1 9 2 3");
    Check.due("patch(1)", desk.patch(1), 2);
    Check.due("row 1 patched", Check.resultOf(desk), "4 9");
    Check.due("patch(2)", desk.patch(2), 3);
    Check.due("row 2 patched", Check.resultOf(desk), "5 9 6");
    Check.due("the script stays", Check.scriptOf(desk, 1), "+1:9");
  }

  private static void patchesByDiff() {
    int[][] rows = {Check.row(), Check.row(7), Check.range(0, 20), Check.range(10, 30), Check.same(15, 20)};
    for (int[] a : rows) {
      for (int[] b : rows) {
        DiffDesk desk = Check.desk(40, Check.row(), a, b);
        desk.diff(1, 2);
        Check.due("patch", Check.outcome(() -> desk.patch(1)), b.length);
        Check.due("row b", Check.resultOf(desk), Check.text(b));
      }
    }
  }

  private static void answersTheSize() {
    DiffDesk desk = new DiffDesk(40);
    Check.due("nothing", desk.patch(0), 0);
    for (int k = 1; k <= 20; k++) {
      Check.feed(desk, 0, k);
      Check.due("a row of " + k, desk.patch(0), k);
    }
    for (int k = 21; k <= 60; k++) {
      Check.load(desk, 1, 20, k);
      Check.due("with insertions " + k, desk.patch(0), k);
    }
    Check.due("all of them", Check.resultOf(desk), Check.text(Check.range(1, 61)));
    desk.diff(0, 1);
    Check.due("all deleted", desk.patch(0), 0);
  }

  private static void noSuchRow() {
    DiffDesk desk = Check.desk(40, Check.row(1), Check.row(2), Check.row(3));
    for (int row : Check.NO_ROWS) {
      Check.dueThrowAndNoChange("patch(" + row + ")", ARGUMENT, desk, () -> desk.patch(row));
    }
    for (int row = 0; row < 3; row++) {
      Check.due("patch(" + row + ")", desk.patch(row), 1);
    }
    Check.load(desk, 0, 9, 1);
    for (int row : Check.NO_ROWS) {
      Check.dueThrow("patch(" + row + ") by a wrong place", ARGUMENT, () -> desk.patch(row));
    }
  }

  private static void anotherKind() {
    for (int kind : new int[] {-1, 2, 3, Integer.MIN_VALUE, Integer.MAX_VALUE, 65536, 65537}) {
      dueThrown(ARGUMENT, Check.row(1), kind, 0, 1);
      dueThrown(ARGUMENT, Check.row(1), 1, 0, 5, kind, 0, 1);
    }
    duePatched("", Check.row(1), 0, 0, 1);
    duePatched("1 1", Check.row(1), 1, 0, 1);
  }

  private static void noSymbol() {
    for (int symbol : new int[] {-1, 30001, 65536 + 5, Integer.MIN_VALUE, Integer.MAX_VALUE}) {
      dueThrown(ARGUMENT, Check.row(5), 0, 0, symbol);
      dueThrown(ARGUMENT, Check.row(5), 1, 0, symbol);
    }
    for (int symbol : new int[] {0, 30000}) {
      duePatched("", Check.row(symbol), 0, 0, symbol);
      duePatched(symbol + " 5", Check.row(5), 1, 0, symbol);
    }
  }

  private static void placeOfDelete() {
    for (int size : new int[] {1, 2, 20}) {
      int[] row = Check.same(6, size);
      for (int place : new int[] {-1, size, size + 1, Integer.MIN_VALUE, Integer.MAX_VALUE}) {
        dueThrown(PLACE, row, 0, place, 6);
      }
      String rest = Check.text(Check.same(6, size - 1));
      duePatched(rest, row, 0, 0, 6);
      duePatched(rest, row, 0, size - 1, 6);
    }
    dueThrown(PLACE, Check.row(), 0, 0, 6);
    dueThrown(PLACE, Check.row(), 0, -1, 6);
  }

  private static void placeOfInsert() {
    for (int size : new int[] {0, 1, 20}) {
      int[] row = Check.same(6, size);
      for (int place : new int[] {-1, size + 1, size + 2, Integer.MIN_VALUE, Integer.MAX_VALUE}) {
        dueThrown(PLACE, row, 1, place, 9);
      }
      duePatched(Check.text(Check.join(Check.row(9), row)), row, 1, 0, 9);
      duePatched(Check.text(Check.join(row, Check.row(9))), row, 1, size, 9);
    }
  }

  private static void placeOfAnotherRow() {
    DiffDesk desk = Check.desk(40, Check.row(1, 2), Check.row(1), Check.row(1, 2, 3));
    Check.load(desk, 1, 2, 9);
    Check.due("the end of row 0", Check.outcome(() -> desk.patch(0)), 3);
    Check.dueThrow("behind the end of row 1", PLACE, () -> desk.patch(1));
    Check.due("a place of row 2", Check.outcome(() -> desk.patch(2)), 4);
    desk.clear(2);
    Check.dueThrow("a place of row 2 before clear", PLACE, () -> desk.patch(2));
    Check.feed(desk, 2, 1, 2);
    Check.due("the end of row 2", Check.outcome(() -> desk.patch(2)), 3);
  }

  private static void placeBelow() {
    int[] row = Check.row(1, 2, 3);
    dueThrown(PLACE, row, 1, 2, 9, 1, 1, 8);
    dueThrown(PLACE, row, 1, 2, 9, 0, 1, 2);
    dueThrown(PLACE, row, 1, 3, 9, 1, 0, 8);
    dueThrown(PLACE, row, 1, 3, 9, 0, 2, 3);
    dueThrown(PLACE, row, 1, 1, 9, 0, 0, 1);
    dueThrown(PLACE, row, 0, 1, 2, 0, 0, 1);
    duePatched("1 2 9 8 3", row, 1, 2, 9, 1, 2, 8);
    duePatched("1 2 9", row, 1, 2, 9, 0, 2, 3);
    duePatched("1 2 9 3 8", row, 1, 2, 9, 1, 3, 8);
    // The operation before counts, not the first one.
    dueThrown(PLACE, row, 1, 0, 9, 1, 2, 8, 1, 1, 7);
    duePatched("9 1 2 8 7 3", row, 1, 0, 9, 1, 2, 8, 1, 2, 7);
  }

  private static void placeNotAboveADeletion() {
    int[] row = Check.row(1, 1, 1);
    for (int place = 0; place < 3; place++) {
      dueThrown(PLACE, row, 0, place, 1, 0, place, 1);
      dueThrown(PLACE, row, 0, place, 1, 1, place, 9);
      dueThrown(PLACE, row, 1, place, 8, 0, place, 1, 1, place, 9);
    }
    duePatched("9 1 1", row, 0, 0, 1, 1, 1, 9);
    duePatched("1 9 1", row, 0, 1, 1, 1, 2, 9);
    duePatched("1 1 9", row, 0, 2, 1, 1, 3, 9);
    duePatched("1", row, 0, 0, 1, 0, 1, 1);
    duePatched("1", row, 0, 1, 1, 0, 2, 1);
    duePatched("", row, 0, 0, 1, 0, 1, 1, 0, 2, 1);
  }

  private static void anotherSymbol() {
    int[] row = Check.row(1, 2, 0);
    dueThrown(STATE, row, 0, 0, 2);
    dueThrown(STATE, row, 0, 0, 0);
    dueThrown(STATE, row, 0, 1, 1);
    dueThrown(STATE, row, 0, 1, 3);
    dueThrown(STATE, row, 0, 2, 30000);
    dueThrown(STATE, row, 0, 0, 1, 0, 1, 0);
    // There is the row, not what has been put to the result.
    dueThrown(STATE, row, 1, 0, 9, 0, 0, 9);
    duePatched("2 0", row, 0, 0, 1);
    duePatched("1 0", row, 0, 1, 2);
    duePatched("1 2", row, 0, 2, 0);
    duePatched("30000 1 2 0", row, 1, 0, 30000);
  }

  /** Row 0 has 20 times 7, and the script inserts 0, 1, 2 .. at a place. */
  private static DiffDesk fullRowAndInsertions(int place, int times) {
    DiffDesk desk = deskOf(Check.same(7, 20));
    for (int k = 0; k < times; k++) {
      Check.load(desk, 1, place, k);
    }
    return desk;
  }

  private static void moreThan60() {
    for (int place : new int[] {0, 1, 10, 19, 20}) {
      DiffDesk desk = fullRowAndInsertions(place, 39);
      Check.due("59 symbols", Check.outcome(() -> desk.patch(0)), 59);
      Check.load(desk, 1, place, 39);
      Check.due("60 symbols", Check.outcome(() -> desk.patch(0)), 60);
      Check.due("the last of 60", desk.result(59), place == 20 ? 39 : 7);
      Check.load(desk, 1, place, 40);
      Check.dueThrowAndNoChange("61 symbols, inserted at " + place, LONG, desk, () -> desk.patch(0));
    }
    DiffDesk full = new DiffDesk(40);
    for (int k = 0; k < 60; k++) {
      Check.load(full, 1, 0, k);
    }
    Check.due("60 insertions to an empty row", Check.outcome(() -> full.patch(2)), 60);
    Check.feed(full, 2, 1);
    Check.dueThrowAndNoChange("60 insertions to a row of one", LONG, full, () -> full.patch(2));
    Check.dueThrow("60 insertions to a row of twenty", LONG, () -> fullRowAndInsertions(20, 60).patch(0));
  }

  private static void deletionMakesRoom() {
    for (int place : new int[] {0, 10, 19}) {
      DiffDesk desk = fullRowAndInsertions(place, 41);
      Check.load(desk, 0, 19, 7);
      Check.due("41 insertions, one deletion behind", Check.outcome(() -> desk.patch(0)), 60);
      DiffDesk more = fullRowAndInsertions(place, 42);
      Check.load(more, 0, 19, 7);
      Check.dueThrow("42 insertions, one deletion behind", LONG, () -> more.patch(0));
    }
    DiffDesk before = deskOf(Check.same(7, 20));
    Check.load(before, 0, 0, 7);
    for (int k = 0; k < 41; k++) {
      Check.load(before, 1, 20, k);
    }
    Check.due("one deletion before 41 insertions", Check.outcome(() -> before.patch(0)), 60);
    Check.load(before, 1, 20, 41);
    Check.dueThrow("one deletion before 42 insertions", LONG, () -> before.patch(0));
  }

  private static void firstOperationCounts() {
    int[] row = Check.row(1, 2, 3);
    int[] kind = {2, 0, 1};
    int[] symbol = {1, 0, -1};
    int[] place = {0, 9, 1};
    int[] state = {0, 0, 2};
    int[][] wrong = {kind, symbol, place, state};
    Object[] due = {ARGUMENT, ARGUMENT, PLACE, STATE};
    for (int first = 0; first < wrong.length; first++) {
      for (int[] second : wrong) {
        DiffDesk desk = deskOf(row);
        Check.load(desk, wrong[first]);
        Check.load(desk, second);
        String want = ((Class<?>) due[first]).getSimpleName();
        Check.due("fault " + first + " and another", Check.outcome(() -> desk.patch(0)), want);
        desk.forget();
        Check.load(desk, 1, 0, 9);
        Check.load(desk, wrong[first]);
        Check.load(desk, second);
        Check.due("a right one, fault " + first + " and another", Check.outcome(() -> desk.patch(0)), want);
      }
    }
  }

  // The document does not say when the result is found too long. Here the operation that would put the 61st symbol to
  // it is the wrong one; what is taken over behind the last operation is looked at last.
  private static void the61stSymbolCounts() {
    DiffDesk desk = fullRowAndInsertions(20, 41);
    Check.load(desk, 5, 0, 0);
    Check.dueThrow("the 61st symbol, then a wrong kind", LONG, () -> desk.patch(0));
    DiffDesk room = fullRowAndInsertions(20, 40);
    Check.load(room, 5, 0, 0);
    Check.dueThrow("the 60th symbol, then a wrong kind", ARGUMENT, () -> room.patch(0));
    DiffDesk late = fullRowAndInsertions(0, 41);
    Check.load(late, 0, 20, 7);
    Check.dueThrow("a wrong place before the 61st symbol", PLACE, () -> late.patch(0));
    DiffDesk taken = fullRowAndInsertions(0, 41);
    Check.load(taken, 1, 20, 7, 5, 0, 0);
    Check.dueThrow("the 61st symbol is taken over, then a wrong kind", LONG, () -> taken.patch(0));
    DiffDesk deleted = fullRowAndInsertions(0, 42);
    Check.load(deleted, 0, 19, 7, 5, 0, 0);
    Check.dueThrow("the 61st symbol is taken over before a deletion, then a wrong kind", LONG, () -> deleted.patch(0));
  }

  private static void namedFirst() {
    int[] row = Check.row(1, 2, 3);
    dueThrown(ARGUMENT, row, 2, 9, 1);
    dueThrown(ARGUMENT, row, 0, 9, -1);
    dueThrown(ARGUMENT, row, 1, 9, 30001);
    dueThrown(ARGUMENT, row, 1, 2, 9, 1, 0, 30001);
    dueThrown(ARGUMENT, row, 0, 0, -1);
    dueThrown(PLACE, row, 1, 2, 9, 0, 0, 2);
    dueThrown(PLACE, row, 0, 1, 2, 0, 1, 3);
    dueThrown(PLACE, row, 0, 3, 1);
    // Sixty insertions, and a last operation that is wrong in a second way as well.
    DiffDesk kind = fullRowAndInsertions(0, 59);
    Check.load(kind, 2, 20, 0);
    Check.dueThrow("a wrong kind and too long", ARGUMENT, () -> kind.patch(0));
    DiffDesk place = fullRowAndInsertions(0, 59);
    Check.load(place, 1, 21, 0);
    Check.dueThrow("a wrong place and too long", PLACE, () -> place.patch(0));
    DiffDesk state = fullRowAndInsertions(0, 59);
    Check.load(state, 0, 19, 6);
    Check.dueThrow("another symbol and too long", STATE, () -> state.patch(0));
  }
}
