/** Promise 11, and what the terms say of merging. */
public final class MergeTest {
  public static void main(String[] args) {
    Check.holds("11: how many conflicts", MergeTest::countsConflicts);
    Check.holds("11: how many conflicts (the most there can be, and full rows)", MergeTest::countsMostConflicts);
    Check.holds("11: The result is what was taken over", MergeTest::resultIsWhatWasTakenOver);
    Check.holds("11: (the result alone is changed)", MergeTest::changesTheResultAlone);
    Check.holds("11: (each merge begins anew)", MergeTest::eachMergeBeginsAnew);
    Check.holds("11: (LIMIT is diff's alone)", MergeTest::limitDoesNotCount);
    Check.holds("Merging: (empty rows)", MergeTest::emptyRows);
    Check.holds("Merging: A symbol of the base is STABLE if both keep it", MergeTest::stableIfBothKeep);
    Check.holds("Merging: Between stable symbols that follow one another", MergeTest::betweenStableSymbols);
    Check.holds("Merging: (also before the first one ..)", MergeTest::beforeTheFirst);
    Check.holds("Merging: (.. and behind the last one)", MergeTest::behindTheLast);
    Check.holds("Merging: the base has some symbols (perhaps none)", MergeTest::baseHasNone);
    Check.holds("Merging: those between the ones kept with these stable ones", MergeTest::betweenTheOnesKeptWith);
    Check.holds("Merging: If the rows 1 and 2 have the same there, that is taken over", MergeTest::sameInBoth);
    Check.holds("Merging: else, if row 1 has just what the base has, that of row 2", MergeTest::row1HasTheBase);
    Check.holds("Merging: else, if row 2 has just what the base has, that of row 1", MergeTest::row2HasTheBase);
    Check.holds("Merging: else there is a CONFLICT: -1 .. -2 .. -3", MergeTest::conflict);
    Check.holds("Merging: CONFLICT (one row has none there)", MergeTest::conflictWithNone);
    Check.holds("Merging: Then comes the stable symbol", MergeTest::stableSymbolComes);
    Check.end("MergeTest");
  }

  private static void dueMerged(int conflicts, String want, int[] base, int[] one, int[] two) {
    DiffDesk desk = Check.desk(40, base, one, two);
    Check.due("conflicts for " + want, Check.outcome(desk::merge), conflicts);
    Check.due("merged", Check.resultOf(desk), want);
    Check.due("results", desk.results(), want.isEmpty() ? 0 : want.split(" ").length);
    Check.due("behind the result", desk.result(desk.results()), -40);
  }

  private static void countsConflicts() {
    int[] base = Check.row(1, 2, 3);
    dueMerged(0, "1 2 3", base, base, base);
    dueMerged(1, "-1 8 -2 9 -3 1 2 3", base, Check.row(8, 1, 2, 3), Check.row(9, 1, 2, 3));
    dueMerged(2, "-1 8 -2 9 -3 1 -1 8 -2 9 -3 2 3", base, Check.row(8, 1, 8, 2, 3), Check.row(9, 1, 9, 2, 3));
    dueMerged(4, "-1 8 -2 9 -3 1 -1 8 -2 9 -3 2 -1 8 -2 9 -3 3 -1 8 -2 9 -3", base,
        Check.row(8, 1, 8, 2, 8, 3, 8), Check.row(9, 1, 9, 2, 9, 3, 9));
  }

  private static void countsMostConflicts() {
    DiffDesk oneForAll = Check.desk(40, Check.same(1, 20), Check.same(2, 20), Check.same(3, 20));
    Check.due("full rows without a stable symbol", oneForAll.merge(), 1);
    Check.due("their size", oneForAll.results(), 43);
    Check.due("the end", oneForAll.result(42), -3);
    DiffDesk most = mostConflicts();
    for (int time = 0; time < 2; time++) {
      Check.due("twelve conflicts", most.merge(), 12);
      Check.due("more than the 60 of a patch", most.results(), 65);
      Check.due("the last symbol", most.result(63), 3013);
      Check.due("the last mark", most.result(64), -3);
      Check.due("a patch between", most.patch(0), 20);
    }
  }

  /** Full rows with a conflict before, between and behind eleven stable symbols. */
  private static DiffDesk mostConflicts() {
    DiffDesk desk = new DiffDesk(40);
    for (int k = 0; k < 12; k++) {
      boolean baseHas = k < 9;
      if (baseHas) {
        Check.feed(desk, 0, 1000 + k);
      }
      if (!baseHas || k % 2 == 0) {
        Check.feed(desk, 1, 2000 + k);
      }
      if (!baseHas || k % 2 == 1) {
        Check.feed(desk, 2, 3000 + k);
      }
      for (int row = 0; row < 3 && k < 11; row++) {
        Check.feed(desk, row, k);
      }
    }
    Check.feed(desk, 1, 2012);
    Check.feed(desk, 2, 3012, 3013);
    return desk;
  }

  private static void resultIsWhatWasTakenOver() {
    DiffDesk desk = Check.desk(40, Check.row(1, 2, 3), Check.row(1, 9, 3), Check.row(1, 2, 3, 0, 30000));
    Check.due("conflicts", desk.merge(), 0);
    Check.due("results", desk.results(), 5);
    Check.due("result", Check.resultOf(desk), "1 9 3 0 30000");
  }

  private static void changesTheResultAlone() {
    DiffDesk desk = Check.desk(40, Check.row(1, 2), Check.row(1, 3), Check.row(4, 2));
    desk.diff(0, 1);
    desk.merge();
    Check.due("script after merge", Check.scriptOf(desk, 2), "-1:2 +2:3");
    Check.due("hunks after merge", Check.hunksOf(desk, 0), "1,1,1,1");
    Check.due("rows after merge", Check.rowOf(desk, 0) + "/" + Check.rowOf(desk, 1) + "/" + Check.rowOf(desk, 2),
        "1 2/1 3/4 2");
  }

  private static void eachMergeBeginsAnew() {
    DiffDesk desk = Check.desk(40, Check.row(1, 5), Check.row(2, 5), Check.row(3, 5));
    for (int time = 0; time < 3; time++) {
      Check.due("merge " + time, desk.merge(), 1);
      Check.due("its result", Check.resultOf(desk), "-1 2 -2 3 -3 5");
    }
    // Here the base decides, so that it shows where the base's stretch begins.
    DiffDesk decided = Check.desk(40, Check.row(1, 5), Check.row(2, 5), Check.row(1, 5));
    for (int time = 0; time < 3; time++) {
      Check.due("merge " + time, decided.merge(), 0);
      Check.due("its result", Check.resultOf(decided), "2 5");
    }
    desk.clear(0);
    desk.clear(1);
    desk.clear(2);
    Check.due("merge of cleared rows", desk.merge(), 0);
    Check.due("its result", Check.resultOf(desk), "");
  }

  private static void limitDoesNotCount() {
    DiffDesk desk = Check.desk(0, Check.same(1, 20), Check.same(2, 20), Check.same(1, 20));
    Check.due("merge with LIMIT 0", Check.outcome(desk::merge), 0);
    Check.due("its result", Check.resultOf(desk), Check.text(Check.same(2, 20)));
  }

  private static void emptyRows() {
    int[] none = Check.row();
    dueMerged(0, "", none, none, none);
    dueMerged(0, "7", none, Check.row(7), none);
    dueMerged(0, "7", none, none, Check.row(7));
    dueMerged(0, "", Check.row(7), none, Check.row(7));
    dueMerged(0, "", Check.row(7), Check.row(7), none);
    dueMerged(0, "", Check.row(7), none, none);
    dueMerged(1, "-1 8 -2 -3", Check.row(7), Check.row(8), none);
    dueMerged(1, "-1 -2 8 -3", Check.row(7), none, Check.row(8));
  }

  // A symbol that one row alone keeps is not stable, so what is before and behind it belongs to one stretch.
  private static void stableIfBothKeep() {
    dueMerged(2, "-1 8 -2 9 -3 5 -1 6 -2 7 -3", Check.row(5), Check.row(8, 5, 6), Check.row(9, 5, 7));
    dueMerged(1, "-1 8 5 6 -2 9 7 -3", Check.row(5), Check.row(8, 5, 6), Check.row(9, 7));
    dueMerged(1, "-1 8 6 -2 9 5 7 -3", Check.row(5), Check.row(8, 6), Check.row(9, 5, 7));
    dueMerged(1, "-1 8 6 -2 9 7 -3", Check.row(5), Check.row(8, 6), Check.row(9, 7));
    dueMerged(1, "-1 2 -2 1 -3", Check.row(1, 2), Check.row(2), Check.row(1));
  }

  private static void betweenStableSymbols() {
    int[] base = Check.row(1, 2, 3, 4);
    dueMerged(1, "1 -1 9 3 -2 2 8 -3 4", base, Check.row(1, 9, 3, 4), Check.row(1, 2, 8, 4));
    dueMerged(0, "1 9 2 8 3 4", base, Check.row(1, 9, 2, 3, 4), Check.row(1, 2, 8, 3, 4));
    dueMerged(0, "1 9 3 8", base, Check.row(1, 9, 3, 4), Check.row(1, 2, 3, 8));
  }

  private static void beforeTheFirst() {
    int[] base = Check.row(1, 2);
    dueMerged(0, "9 1 2", base, Check.row(9, 1, 2), base);
    dueMerged(0, "9 1 2", base, base, Check.row(9, 1, 2));
    dueMerged(0, "2", base, Check.row(2), base);
    dueMerged(0, "9 2", base, base, Check.row(9, 2));
    dueMerged(1, "-1 8 -2 9 -3 2", base, Check.row(8, 2), Check.row(9, 2));
  }

  private static void behindTheLast() {
    int[] base = Check.row(1, 2);
    dueMerged(0, "1 2 9", base, Check.row(1, 2, 9), base);
    dueMerged(0, "1 2 9", base, base, Check.row(1, 2, 9));
    dueMerged(0, "1", base, Check.row(1), base);
    dueMerged(0, "1 9", base, base, Check.row(1, 9));
    dueMerged(1, "1 -1 8 -2 9 -3", base, Check.row(1, 8), Check.row(1, 9));
  }

  private static void baseHasNone() {
    int[] base = Check.row(1, 2);
    dueMerged(0, "1 2", base, base, base);
    dueMerged(0, "1 9 2", base, Check.row(1, 9, 2), base);
    dueMerged(0, "1 9 2", base, base, Check.row(1, 9, 2));
    dueMerged(0, "1 9 2", base, Check.row(1, 9, 2), Check.row(1, 9, 2));
    dueMerged(1, "1 -1 8 -2 9 -3 2", base, Check.row(1, 8, 2), Check.row(1, 9, 2));
  }

  // The rows have symbols that could be paired in several ways: the least script's way counts.
  private static void betweenTheOnesKeptWith() {
    dueMerged(1, "5 -1 -2 7 5 -3", Check.row(5, 5), Check.row(5), Check.row(5, 7, 5));
    dueMerged(1, "5 -1 7 5 -2 -3", Check.row(5, 5), Check.row(5, 7, 5), Check.row(5));
    dueMerged(0, "5 5 5", Check.row(5), Check.row(5, 5, 5), Check.row(5));
    dueMerged(1, "5 -1 8 5 -2 9 5 -3", Check.row(5), Check.row(5, 8, 5), Check.row(5, 9, 5));
  }

  private static void sameInBoth() {
    int[] base = Check.row(1, 2, 3);
    dueMerged(0, "1 3", base, Check.row(1, 3), Check.row(1, 3));
    dueMerged(0, "1 9 3", base, Check.row(1, 9, 3), Check.row(1, 9, 3));
    dueMerged(0, "1 9 8 3", base, Check.row(1, 9, 8, 3), Check.row(1, 9, 8, 3));
    dueMerged(1, "1 -1 9 -2 9 8 -3 3", base, Check.row(1, 9, 3), Check.row(1, 9, 8, 3));
    dueMerged(1, "1 -1 9 8 -2 9 -3 3", base, Check.row(1, 9, 8, 3), Check.row(1, 9, 3));
    dueMerged(1, "1 -1 9 8 -2 9 7 -3 3", base, Check.row(1, 9, 8, 3), Check.row(1, 9, 7, 3));
    dueMerged(1, "1 -1 8 9 -2 7 9 -3 3", base, Check.row(1, 8, 9, 3), Check.row(1, 7, 9, 3));
    dueMerged(0, Check.text(Check.same(2, 20)), Check.same(1, 20), Check.same(2, 20), Check.same(2, 20));
  }

  private static void row1HasTheBase() {
    int[] base = Check.row(1, 2, 3, 4);
    dueMerged(0, "1 9 4", base, base, Check.row(1, 9, 4));
    dueMerged(0, "1 4", base, base, Check.row(1, 4));
    dueMerged(1, "1 -1 2 -2 9 -3 4", base, Check.row(1, 2, 4), Check.row(1, 9, 4));
    dueMerged(1, "1 -1 2 3 5 -2 9 -3 4", base, Check.row(1, 2, 3, 5, 4), Check.row(1, 9, 4));
    dueMerged(1, "1 -1 3 2 -2 9 -3 4", base, Check.row(1, 3, 2, 4), Check.row(1, 9, 4));
  }

  private static void row2HasTheBase() {
    int[] base = Check.row(1, 2, 3, 4);
    dueMerged(0, "1 9 4", base, Check.row(1, 9, 4), base);
    dueMerged(0, "1 4", base, Check.row(1, 4), base);
    dueMerged(1, "1 -1 9 -2 2 -3 4", base, Check.row(1, 9, 4), Check.row(1, 2, 4));
    dueMerged(1, "1 -1 9 -2 2 3 5 -3 4", base, Check.row(1, 9, 4), Check.row(1, 2, 3, 5, 4));
    dueMerged(1, "1 -1 9 -2 3 2 -3 4", base, Check.row(1, 9, 4), Check.row(1, 3, 2, 4));
  }

  private static void conflict() {
    dueMerged(1, "-1 7 -2 8 -3", Check.row(), Check.row(7), Check.row(8));
    dueMerged(1, "1 -1 9 -2 8 -3 3", Check.row(1, 2, 3), Check.row(1, 9, 3), Check.row(1, 8, 3));
    dueMerged(1, "1 -1 9 9 -2 8 8 8 -3 3", Check.row(1, 2, 3), Check.row(1, 9, 9, 3), Check.row(1, 8, 8, 8, 3));
  }

  private static void conflictWithNone() {
    int[] base = Check.row(1, 2, 3);
    dueMerged(1, "1 -1 -2 8 -3 3", base, Check.row(1, 3), Check.row(1, 8, 3));
    dueMerged(1, "1 -1 9 -2 -3 3", base, Check.row(1, 9, 3), Check.row(1, 3));
    dueMerged(0, "1 3", base, Check.row(1, 3), Check.row(1, 2, 3));
    dueMerged(0, "1 3", base, Check.row(1, 2, 3), Check.row(1, 3));
  }

  private static void stableSymbolComes() {
    dueMerged(0, "5", Check.row(5), Check.row(5), Check.row(5));
    dueMerged(1, "-1 8 -2 9 -3 5", Check.row(5), Check.row(8, 5), Check.row(9, 5));
    dueMerged(1, "5 -1 8 -2 9 -3", Check.row(5), Check.row(5, 8), Check.row(5, 9));
    dueMerged(0, Check.text(Check.range(0, 20)), Check.range(0, 20), Check.range(0, 20), Check.range(0, 20));
  }
}
