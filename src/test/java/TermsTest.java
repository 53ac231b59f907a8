/**
 * What stands before the promises: the 512 calls, and the terms of rows, scripts, rest, the least script, patching, and
 * "What throws changes nothing." (HunksTest and MergeTest hold the terms of hunks and of merging.)
 */
public final class TermsTest {
  public static void main(String[] args) {
    Check.holds("An object is used for at most 512 calls", TermsTest::the512thCall);
    Check.holds("NONE = -1", TermsTest::noneIsMinus1);
    Check.holds("ROWS are 0 (the BASE), 1 and 2", TermsTest::threeRows);
    Check.holds("ROWS: 0 (the BASE)", TermsTest::row0IsTheBase);
    Check.holds("ROWS: each of at most 20 SYMBOLS", TermsTest::twentySymbols);
    Check.holds("SYMBOLS: shorts from 0 to 30000", TermsTest::symbolsFrom0To30000);
    Check.holds("SCRIPT: 0 DELETE the symbol at a place (it is that symbol)", TermsTest::deleteHasItsSymbol);
    Check.holds("SCRIPT: 1 INSERT a symbol before a place", TermsTest::insertBeforeAPlace);
    Check.holds("REST: the least number of deletions and insertions", TermsTest::leastNumber);
    Check.holds("REST: what a has from place i on into what b has from j on (one of them nothing)",
        TermsTest::restAtTheEnds);
    Check.holds("LEAST SCRIPT: if both have symbols there and they are the same, nothing", TermsTest::sameSymbols);
    Check.holds("LEAST SCRIPT: if both have symbols there (one is at its end)", TermsTest::oneAtItsEnd);
    Check.holds("LEAST SCRIPT: rest(i + 1, j) is less than rest(i, j), DELETE it", TermsTest::deleteIfLess);
    Check.holds("LEAST SCRIPT: is less (else INSERT)", TermsTest::insertIfNotLess);
    Check.holds("LEAST SCRIPT: INSERT it before i", TermsTest::insertBeforeI);
    Check.holds("LEAST SCRIPT: until both are at their ends", TermsTest::untilBothEnds);
    Check.holds("PATCHING: the symbols before its place that were not taken are taken over",
        TermsTest::takenOverBefore);
    Check.holds("PATCHING: at last what is left is taken over", TermsTest::takenOverAtLast);
    Check.holds("What throws changes nothing: diff, no such row", TermsTest::diffNoSuchRowChangesNothing);
    Check.holds("What throws changes nothing: diff, more than LIMIT", TermsTest::diffMoreThanLimitChangesNothing);
    Check.holds("What throws changes nothing: patch, no such row", TermsTest::patchNoSuchRowChangesNothing);
    Check.holds("What throws changes nothing: patch, kind or symbol", TermsTest::patchKindOrSymbolChangesNothing);
    Check.holds("What throws changes nothing: patch, place", TermsTest::patchPlaceChangesNothing);
    Check.holds("What throws changes nothing: patch, another symbol", TermsTest::patchAnotherSymbolChangesNothing);
    Check.holds("What throws changes nothing: patch, more than 60", TermsTest::patchMoreThan60ChangesNothing);
    Check.end("TermsTest");
  }

  /** An object with full rows on which so many calls have been made. */
  private static DiffDesk busy(int calls) {
    DiffDesk desk = Check.desk(40, Check.range(0, 20), Check.range(10, 30), Check.range(20, 40));
    for (int call = 60; call < calls; call++) {
      switch (call % 6) {
        case 0: desk.diff(0, 1); break;
        case 1: desk.patch(0); break;
        case 2: desk.merge(); break;
        case 3: desk.hunk(9, 0, 1); break;
        case 4: desk.alike(1, 2); break;
        default: desk.load(1, 0, call); break;
      }
    }
    return desk;
  }

  private static void the512thCall() {
    Check.due("diff", busy(511).diff(0, 2), 40);
    Check.due("merge", busy(511).merge(), 1);
    Check.due("alike", busy(511).alike(0, 1), 0.5f);
    Check.due("clear", busy(511).clear(2), true);
    Check.due("feed", busy(511).feed(2, (short) 1), false);
    Check.due("load", busy(511).load(1, 0, 1), true);
    Check.due("diff that throws", Check.outcome(() -> busy(511).diff(0, 3)), "IllegalArgumentException");
    DiffDesk desk = busy(509);
    desk.forget();
    Check.due("patch", desk.patch(1), 20);
    Check.due("result", desk.result(19), 29);
  }

  private static void noneIsMinus1() {
    Check.due("NONE", DiffDesk.NONE, -1);
    Check.due("size(3)", new DiffDesk(0).size(3), DiffDesk.NONE);
  }

  private static void threeRows() {
    DiffDesk desk = new DiffDesk(40);
    int[] wanted = {-1, 0, 0, 0, -1};
    for (int row = -1; row <= 3; row++) {
      boolean there = row >= 0 && row <= 2;
      int asked = row;
      Check.due("size(" + row + ")", desk.size(row), wanted[row + 1]);
      Check.due("clear(" + row + ")", desk.clear(row), there);
      Check.due("alike(" + row + ", 1)", desk.alike(row, 1), there ? 1.0f : -1.0f);
      Object due = there ? (Object) 0 : "IllegalArgumentException";
      Check.due("diff(" + row + ", 1)", Check.outcome(() -> desk.diff(asked, 1)), due);
      Check.due("patch(" + row + ")", Check.outcome(() -> desk.patch(asked)), due);
      Check.due("feed(" + row + ", 5)", desk.feed(row, (short) 5), there);
      Check.due("symbol(" + row + ", 0)", desk.symbol(row, 0), (short) (there ? 5 : -1));
      desk.clear(row);
    }
  }

  private static void row0IsTheBase() {
    DiffDesk changed1 = Check.desk(40, Check.row(1), Check.row(2), Check.row(1));
    changed1.merge();
    Check.due("row 1 has changed the base", Check.resultOf(changed1), "2");
    DiffDesk changed2 = Check.desk(40, Check.row(1), Check.row(1), Check.row(2));
    changed2.merge();
    Check.due("row 2 has changed the base", Check.resultOf(changed2), "2");
    DiffDesk both = Check.desk(40, Check.row(1), Check.row(2), Check.row(2));
    both.merge();
    Check.due("both have changed the base", Check.resultOf(both), "2");
  }

  // All three are full at once, so that none can have its symbols in the room of another one.
  private static void twentySymbols() {
    DiffDesk desk = new DiffDesk(40);
    for (int k = 0; k < 20; k++) {
      for (int row = 0; row < 3; row++) {
        Check.due("symbol " + k + " to row " + row, desk.feed(row, (short) (100 * row + k)), true);
      }
    }
    for (int row = 0; row < 3; row++) {
      Check.due("one more to row " + row, desk.feed(row, (short) 7), false);
      Check.due("row " + row, Check.rowOf(desk, row), Check.text(Check.range(100 * row, 100 * row + 20)));
    }
  }

  private static void symbolsFrom0To30000() {
    DiffDesk desk = Check.desk(40, Check.row(0, 30000), Check.row(30000, 0), Check.row(0, 30000));
    Check.due("-1", desk.feed(0, (short) -1), false);
    Check.due("30001", desk.feed(0, (short) 30001), false);
    Check.due("diff", desk.diff(0, 1), 2);
    Check.due("script", Check.scriptOf(desk, 2), "-0:0 +2:0");
    Check.due("patch", desk.patch(0), 2);
    Check.due("patched", Check.resultOf(desk), "30000 0");
    Check.due("merge", desk.merge(), 0);
    Check.due("merged", Check.resultOf(desk), "30000 0");
    Check.due("alike", desk.alike(0, 2), 1.0f);
  }

  private static void deleteHasItsSymbol() {
    Check.dueScript(Check.row(0, 30000), Check.row(), "-0:0 -1:30000");
    Check.dueScript(Check.row(4, 5, 6), Check.row(4, 6), "-1:5");
    Check.dueScript(Check.row(4, 5, 6), Check.row(4, 5), "-2:6");
  }

  private static void insertBeforeAPlace() {
    DiffDesk desk = Check.desk(40, Check.row(4, 5), Check.row(), Check.row());
    String[] wanted = {"9 4 5", "4 9 5", "4 5 9"};
    for (int place = 0; place <= 2; place++) {
      desk.forget();
      Check.load(desk, 1, place, 9);
      Check.due("patch", desk.patch(0), 3);
      Check.due("9 inserted before " + place, Check.resultOf(desk), wanted[place]);
    }
    desk.forget();
    Check.load(desk, 1, 0, 9);
    Check.due("patch of an empty row", desk.patch(1), 1);
    Check.due("9 inserted before its end", Check.resultOf(desk), "9");
  }

  private static void dueLeast(int want, int[] a, int[] b) {
    DiffDesk desk = Check.desk(40, a, b, Check.row());
    Check.due("from a to b", desk.diff(0, 1), want);
    Check.due("from b to a", desk.diff(1, 0), want);
  }

  private static void leastNumber() {
    int[] row = Check.range(0, 20);
    dueLeast(0, row, row);
    dueLeast(1, row, Check.range(0, 19));
    dueLeast(1, row, Check.range(1, 20));
    dueLeast(2, row, Check.join(Check.row(99), Check.range(1, 20)));
    dueLeast(2, row, Check.join(Check.range(0, 19), Check.row(99)));
    dueLeast(2, row, Check.join(Check.range(1, 20), Check.row(0)));
    dueLeast(20, row, Check.range(10, 30));
    dueLeast(38, row, Check.range(19, 39));
    dueLeast(40, row, Check.range(20, 40));
    dueLeast(5, Check.row(1, 2, 3, 1, 2, 2, 1), Check.row(3, 2, 1, 2, 1, 3));
  }

  private static void restAtTheEnds() {
    for (int symbols = 0; symbols <= 20; symbols++) {
      dueLeast(symbols, Check.range(0, symbols), Check.row());
      dueLeast(20 - symbols, Check.range(0, 20), Check.range(0, symbols));
    }
  }

  private static void sameSymbols() {
    Check.dueScript(Check.row(1), Check.row(1), "");
    Check.dueScript(Check.row(1, 2), Check.row(1, 3), "-1:2 +2:3");
    Check.dueScript(Check.row(2, 1), Check.row(3, 1), "-0:2 +1:3");
    Check.dueScript(Check.row(5, 5), Check.row(5), "-1:5");
    Check.dueScript(Check.row(5), Check.row(5, 5), "+1:5");
    Check.dueScript(Check.row(1, 2, 1), Check.row(1), "-1:2 -2:1");
  }

  // The rows had more symbols before they were cleared: those must not be taken for symbols that are there.
  private static void oneAtItsEnd() {
    DiffDesk desk = Check.desk(40, Check.row(1, 2, 3), Check.row(1, 2, 3), Check.row());
    desk.clear(0);
    Check.feed(desk, 0, 1);
    Check.due("diff(0, 1)", desk.diff(0, 1), 2);
    Check.due("a is at its end", Check.scriptOf(desk, 2), "+1:2 +1:3");
    Check.due("diff(1, 0)", desk.diff(1, 0), 2);
    Check.due("b is at its end", Check.scriptOf(desk, 2), "-1:2 -2:3");
    desk.clear(1);
    Check.due("diff(0, 1)", desk.diff(0, 1), 1);
    Check.due("b is empty", Check.scriptOf(desk, 1), "-0:1");
    desk.clear(0);
    Check.due("both are empty", desk.diff(0, 1), 0);
  }

  private static void deleteIfLess() {
    Check.dueScript(Check.row(1), Check.row(2), "-0:1 +1:2");
    Check.dueScript(Check.row(1, 2), Check.row(2, 1), "-0:1 +2:1");
    Check.dueScript(Check.row(1, 2), Check.row(3, 4), "-0:1 -1:2 +2:3 +2:4");
    Check.dueScript(Check.row(9, 1, 2), Check.row(1, 2), "-0:9");
    Check.dueScript(Check.row(1, 2, 3), Check.row(2, 4, 3), "-0:1 +2:4");
  }

  private static void insertIfNotLess() {
    Check.dueScript(Check.row(1, 2), Check.row(9, 1, 2), "+0:9");
    Check.dueScript(Check.row(1, 2, 3), Check.row(2, 3, 1, 2, 3), "+0:2 +0:3");
    Check.dueScript(Check.row(1, 2), Check.row(8, 1, 9), "+0:8 -1:2 +2:9");
  }

  private static void insertBeforeI() {
    Check.dueScript(Check.row(), Check.row(1), "+0:1");
    Check.dueScript(Check.row(1, 2), Check.row(1, 9, 2), "+1:9");
    Check.dueScript(Check.row(1, 2), Check.row(1, 9, 8, 2), "+1:9 +1:8");
    Check.dueScript(Check.row(1, 2), Check.row(1, 2, 9), "+2:9");
    DiffDesk full = Check.desk(40, Check.range(0, 20), Check.range(20, 40), Check.row());
    full.diff(0, 1);
    Check.due("the last deletion", full.operation(19, 0) + " " + full.operation(19, 1), "0 19");
    Check.due("the first insertion", full.operation(20, 0) + " " + full.operation(20, 1), "1 20");
    Check.due("the last insertion", full.operation(39, 1) + " " + full.operation(39, 2), "20 39");
  }

  private static void untilBothEnds() {
    Check.dueScript(Check.row(), Check.row(), "");
    Check.dueScript(Check.row(1, 2), Check.row(), "-0:1 -1:2");
    Check.dueScript(Check.row(), Check.row(1, 2), "+0:1 +0:2");
    Check.dueScript(Check.row(1), Check.row(1, 2, 3), "+1:2 +1:3");
    Check.dueScript(Check.row(1, 2, 3), Check.row(1), "-1:2 -2:3");
    Check.dueScript(Check.row(1, 2), Check.row(3, 2), "-0:1 +1:3");
  }

  private static void duePatched(String want, int... parts) {
    DiffDesk desk = Check.desk(40, Check.row(1, 2, 3, 4), Check.row(), Check.row());
    Check.load(desk, parts);
    Check.due("patch", desk.patch(0), want.isEmpty() ? 0 : want.split(" ").length);
    Check.due("patched", Check.resultOf(desk), want);
  }

  private static void takenOverBefore() {
    duePatched("9 1 2 3 4", 1, 0, 9);
    duePatched("1 9 2 3 4", 1, 1, 9);
    duePatched("1 2 3 4 9", 1, 4, 9);
    duePatched("1 9 8 2 3 4", 1, 1, 9, 1, 1, 8);
    duePatched("1 9 2 8 3 4", 1, 1, 9, 1, 2, 8);
    duePatched("1 4", 0, 1, 2, 0, 2, 3);
    duePatched("2 4", 0, 0, 1, 0, 2, 3);
    duePatched("1 9 3 4", 1, 1, 9, 0, 1, 2);
  }

  private static void takenOverAtLast() {
    duePatched("1 2 3 4");
    duePatched("2 3 4", 0, 0, 1);
    duePatched("1 2 4", 0, 2, 3);
    duePatched("1 2 3", 0, 3, 4);
    duePatched("1 2 3 9 4", 1, 3, 9);
    duePatched("1 2 3 4 9", 1, 4, 9);
    duePatched("", 0, 0, 1, 0, 1, 2, 0, 2, 3, 0, 3, 4);
    duePatched("9", 0, 0, 1, 0, 1, 2, 0, 2, 3, 0, 3, 4, 1, 4, 9);
  }

  /** Rows, a script with a loaded operation, hunks and a merged result that all differ. */
  private static DiffDesk rich() {
    DiffDesk desk = Check.desk(3, Check.row(1, 2, 3), Check.row(1, 9, 3), Check.row(1, 2, 3, 4, 5, 6, 7, 8));
    desk.diff(0, 1);
    desk.merge();
    Check.load(desk, 1, 2, 6);
    return desk;
  }

  private static void diffNoSuchRowChangesNothing() {
    DiffDesk desk = rich();
    Check.dueThrowAndNoChange("diff(1, 3)", IllegalArgumentException.class, desk, () -> desk.diff(1, 3));
    Check.dueThrowAndNoChange("diff(-1, 2)", IllegalArgumentException.class, desk, () -> desk.diff(-1, 2));
  }

  private static void diffMoreThanLimitChangesNothing() {
    DiffDesk desk = rich();
    Check.dueThrowAndNoChange("diff(0, 2)", IllegalStateException.class, desk, () -> desk.diff(0, 2));
    Check.dueThrowAndNoChange("diff(2, 1)", IllegalStateException.class, desk, () -> desk.diff(2, 1));
    Check.due("diff(1, 0) is within LIMIT", desk.diff(1, 0), 2);
  }

  private static void patchNoSuchRowChangesNothing() {
    DiffDesk desk = rich();
    Check.dueThrowAndNoChange("patch(3)", IllegalArgumentException.class, desk, () -> desk.patch(3));
    Check.dueThrowAndNoChange("patch(-1)", IllegalArgumentException.class, desk, () -> desk.patch(-1));
  }

  /** The operations before the wrong one are right, so that a patch may have begun when it throws. */
  private static void duePatchChangesNothing(Class<? extends RuntimeException> want, int kind, int place, int symbol) {
    DiffDesk desk = rich();
    Check.load(desk, kind, place, symbol);
    Check.dueThrowAndNoChange("patch(0)", want, desk, () -> desk.patch(0));
    Check.dueThrowAndNoChange("patch(0) again", want, desk, () -> desk.patch(0));
  }

  private static void patchKindOrSymbolChangesNothing() {
    duePatchChangesNothing(IllegalArgumentException.class, 2, 2, 3);
    duePatchChangesNothing(IllegalArgumentException.class, 1, 2, 30001);
  }

  private static void patchPlaceChangesNothing() {
    duePatchChangesNothing(IndexOutOfBoundsException.class, 1, 4, 3);
    duePatchChangesNothing(IndexOutOfBoundsException.class, 1, 1, 3);
  }

  private static void patchAnotherSymbolChangesNothing() {
    duePatchChangesNothing(IllegalStateException.class, 0, 2, 4);
  }

  private static void patchMoreThan60ChangesNothing() {
    DiffDesk desk = rich();
    for (int k = 0; k < 57; k++) {
      Check.load(desk, 1, 3, 7);
    }
    Check.dueThrowAndNoChange("patch(0)", UnsupportedOperationException.class, desk, () -> desk.patch(0));
    DiffDesk atLast = rich();
    for (int k = 0; k < 56; k++) {
      Check.load(atLast, 1, 2, 7);
    }
    Check.due("patch(0) to 60", atLast.patch(0), 60);
    atLast.merge();
    Check.load(atLast, 1, 2, 7);
    Check.dueThrowAndNoChange("patch(0)", UnsupportedOperationException.class, atLast, () -> atLast.patch(0));
  }
}
