/** Promises 14 and 15: hunks, hunk, and what the terms say of them. */
public final class HunksTest {
  private static final int[] NO_AROUND = {-1, 10, 11, Integer.MIN_VALUE, Integer.MAX_VALUE, 65536};

  private static final int X = 1000;
  private static final int Y = 1001;

  public static void main(String[] args) {
    Check.holds("HUNKS: is at most 2 * n", HunksTest::atMostTwiceAround);
    Check.holds("HUNKS: and 1 more less if the first one deletes", HunksTest::oneLessBehindADeletion);
    Check.holds("HUNKS: two operations that follow one another", HunksTest::followingOperationsCount);
    Check.holds("HUNKS: from n symbols before the place of its first operation (or from the beginning of a)",
        HunksTest::beginning);
    Check.holds("HUNKS: up to n symbols behind the place of its last one (at most to the end)",
        HunksTest::endBehindAnInsertion);
    Check.holds("HUNKS: (behind the symbol, if that is a deletion; at most to the end)", HunksTest::endBehindADeletion);
    Check.holds("HUNKS: (an empty row a)", HunksTest::emptyRowA);
    Check.holds("14: How many hunks the script .. has with n symbols around", HunksTest::hunksCounts);
    Check.holds("14: How many (a script without operations has none)", HunksTest::hunksOfNoOperations);
    Check.holds("14: How many (the most there can be)", HunksTest::mostHunks);
    Check.holds("14: the script that diff made latest", HunksTest::latestDiffCounts);
    Check.holds("14: that script as it was", HunksTest::scriptAsItWas);
    Check.holds("14: and that row a as it was", HunksTest::rowAsItWas);
    Check.holds("14: 0 if diff was never called", HunksTest::neverCalled);
    Check.holds("14: 0 if diff was never called (but threw)", HunksTest::onlyThrown);
    Check.holds("14: or n is not 0 .. 9", HunksTest::hunksAround);
    Check.holds("15: 0 the place .. 1 how many symbols .. 2 .. insert, 3 .. delete", HunksTest::hunkTells);
    Check.holds("15: NONE if there is no such one", HunksTest::hunkNoSuchOne);
    Check.holds("15: NONE if there is no such one (n is not 0 .. 9)", HunksTest::hunkAround);
    Check.holds("15: NONE if there is no such .. what", HunksTest::hunkNoSuchWhat);
    Check.end("HunksTest");
  }

  private static DiffDesk diffed(int[] a, int[] b) {
    DiffDesk desk = Check.desk(40, a, b, Check.row());
    desk.diff(0, 1);
    return desk;
  }

  /** Two operations with so many symbols between them that both rows have. */
  private static DiffDesk twoApart(int symbols, boolean firstDeletes, boolean secondDeletes) {
    int[] none = Check.row();
    int[] between = Check.range(0, symbols);
    int[] a = Check.join(firstDeletes ? Check.row(X) : none, between, secondDeletes ? Check.row(Y) : none);
    int[] b = Check.join(firstDeletes ? none : Check.row(X), between, secondDeletes ? none : Check.row(Y));
    return diffed(a, b);
  }

  private static void dueApart(boolean firstDeletes, boolean secondDeletes) {
    // Two of one kind stand in one row, which has room for 18 between them, else 19.
    int most = firstDeletes == secondDeletes ? 18 : 19;
    for (int n = 0; n <= 9; n++) {
      for (int symbols = Math.max(0, 2 * n - 1); symbols <= Math.min(most, 2 * n + 2); symbols++) {
        DiffDesk desk = twoApart(symbols, firstDeletes, secondDeletes);
        int want = symbols <= 2 * n ? 1 : 2;
        Check.due(symbols + " between, " + n + " around", desk.hunks(n), want);
        Check.due("the first one's insertions", desk.hunk(n, 0, 2),
            (firstDeletes ? 0 : 1) + (want == 1 && !secondDeletes ? 1 : 0));
        Check.due("the first one's deletions", desk.hunk(n, 0, 3),
            (firstDeletes ? 1 : 0) + (want == 1 && secondDeletes ? 1 : 0));
      }
    }
  }

  private static void atMostTwiceAround() {
    dueApart(false, false);
    dueApart(false, true);
  }

  private static void oneLessBehindADeletion() {
    dueApart(true, true);
    dueApart(true, false);
  }

  // The first and the last of these are farther apart than 2 * n, but each is near enough to the next one.
  private static void followingOperationsCount() {
    DiffDesk desk = diffed(Check.row(90, 1, 2, 91, 3, 4, 92, 5, 6, 93), Check.row(1, 2, 3, 4, 5, 6));
    Check.due("script", Check.scriptOf(desk, 4), "-0:90 -3:91 -6:92 -9:93");
    Check.due("0 around", Check.hunksOf(desk, 0), "0,1,0,1 3,1,0,1 6,1,0,1 9,1,0,1");
    Check.due("1 around", Check.hunksOf(desk, 1), "0,10,0,4");
    DiffDesk mixed = diffed(Check.row(90, 1, 2, 91, 3, 4, 5, 92, 93), Check.row(1, 2, 3, 4, 5));
    Check.due("0 around", Check.hunksOf(mixed, 0), "0,1,0,1 3,1,0,1 7,2,0,2");
    Check.due("1 around", Check.hunksOf(mixed, 1), "0,5,0,2 6,3,0,2");
    Check.due("2 around", Check.hunksOf(mixed, 2), "0,9,0,4");
  }

  private static int end(DiffDesk desk, int n) {
    return desk.hunk(n, 0, 0) + desk.hunk(n, 0, 1);
  }

  /** A deletion at a place of a row of 20. */
  private static DiffDesk deletionAt(int place) {
    return diffed(Check.range(0, 20), Check.join(Check.range(0, place), Check.range(place + 1, 20)));
  }

  /** An insertion before a place of a row of 19. */
  private static DiffDesk insertionAt(int place) {
    return diffed(Check.range(0, 19), Check.join(Check.range(0, place), Check.row(X), Check.range(place, 19)));
  }

  private static void beginning() {
    for (int n = 0; n <= 9; n++) {
      Check.due("a deletion as far from the beginning as n = " + n, deletionAt(n).hunk(n, 0, 0), 0);
      Check.due("a deletion one farther than n = " + n, deletionAt(n + 1).hunk(n, 0, 0), 1);
      Check.due("an insertion as far from the beginning as n = " + n, insertionAt(n).hunk(n, 0, 0), 0);
      Check.due("an insertion one farther than n = " + n, insertionAt(n + 1).hunk(n, 0, 0), 1);
      if (n > 0) {
        Check.due("a deletion one nearer than n = " + n, deletionAt(n - 1).hunk(n, 0, 0), 0);
        Check.due("an insertion one nearer than n = " + n, insertionAt(n - 1).hunk(n, 0, 0), 0);
      }
      Check.due("a deletion of the first symbol, n = " + n, deletionAt(0).hunk(n, 0, 0), 0);
    }
    DiffDesk two = twoApart(3, true, true);
    Check.due("its first operation counts", Check.hunksOf(two, 2), "0,5,0,2");
  }

  private static void endBehindAnInsertion() {
    for (int n = 0; n <= 9; n++) {
      Check.due("as far from the end as n = " + n, end(insertionAt(19 - n), n), 19);
      Check.due("one farther than n = " + n, end(insertionAt(18 - n), n), 18);
      if (n > 0) {
        Check.due("one nearer than n = " + n, end(insertionAt(20 - n), n), 19);
      }
      Check.due("at the end itself, n = " + n, end(insertionAt(19), n), 19);
    }
    Check.due("an insertion goes over no symbol with 0 around", Check.hunksOf(insertionAt(4), 0), "4,0,1,0");
    Check.due("an insertion with 1 around", Check.hunksOf(insertionAt(4), 1), "3,2,1,0");
    Check.due("the last operation of two counts", end(twoApart(4, true, false), 2), 5);
  }

  private static void endBehindADeletion() {
    for (int n = 0; n <= 9; n++) {
      Check.due("as far from the end as n = " + n, end(deletionAt(19 - n), n), 20);
      Check.due("one farther than n = " + n, end(deletionAt(18 - n), n), 19);
      if (n > 0) {
        Check.due("one nearer than n = " + n, end(deletionAt(20 - n), n), 20);
      }
      Check.due("the last symbol, n = " + n, end(deletionAt(19), n), 20);
    }
    Check.due("a deletion goes over its symbol with 0 around", Check.hunksOf(deletionAt(4), 0), "4,1,0,1");
    Check.due("a deletion with 1 around", Check.hunksOf(deletionAt(4), 1), "3,3,0,1");
  }

  private static void emptyRowA() {
    DiffDesk desk = diffed(Check.row(), Check.range(0, 20));
    for (int n = 0; n <= 9; n++) {
      Check.due("from an empty row, " + n + " around", Check.hunksOf(desk, n), "0,0,20,0");
    }
    DiffDesk back = diffed(Check.range(0, 20), Check.row());
    for (int n = 0; n <= 9; n++) {
      Check.due("to an empty row, " + n + " around", Check.hunksOf(back, n), "0,20,0,20");
    }
  }

  private static void hunksCounts() {
    DiffDesk desk = diffed(Check.row(1, 2, 3, 1, 2, 2, 1), Check.row(3, 2, 1, 2, 1, 3));
    Check.due("hunks(0)", desk.hunks(0), 4);
    Check.due("hunks(1)", desk.hunks(1), 1);
    Check.due("hunks(9)", desk.hunks(9), 1);
  }

  private static void hunksOfNoOperations() {
    DiffDesk desk = Check.desk(40, Check.row(1), Check.row(2), Check.row(2));
    desk.diff(0, 1);
    Check.due("a script of two", desk.hunks(0), 1);
    desk.diff(1, 2);
    for (int n = 0; n <= 9; n++) {
      Check.due("hunks(" + n + ") of no operations", Check.hunksOf(desk, n), "");
    }
  }

  // Seven deletions and seven insertions by turns, with one symbol that both rows have between two of them.
  private static void mostHunks() {
    DiffDesk desk = new DiffDesk(40);
    for (int k = 0; k < 14; k++) {
      Check.feed(desk, k % 2, 100 + k);
      if (k < 13) {
        Check.feed(desk, 0, k);
        Check.feed(desk, 1, k);
      }
    }
    Check.due("fourteen operations", desk.diff(0, 1), 14);
    Check.due("fourteen hunks", desk.hunks(0), 14);
    Check.due("where the last one begins", desk.hunk(0, 13, 0), 20);
    Check.due("the one before it", desk.hunk(0, 12, 0) + "," + desk.hunk(0, 12, 1), "18,1");
    Check.due("no fifteenth", desk.hunk(0, 14, 0), -1);
    Check.due("1 around", Check.hunksOf(desk, 1), "0,20,7,7");
    DiffDesk full = diffed(Check.same(1, 20), Check.same(2, 20));
    Check.due("forty operations in one", Check.hunksOf(full, 0), "0,20,20,20");
  }

  private static void latestDiffCounts() {
    DiffDesk desk = Check.desk(3, Check.row(1, 2), Check.row(1), Check.row(7, 8));
    desk.diff(0, 1);
    Check.due("from 0 to 1", Check.hunksOf(desk, 0), "1,1,0,1");
    desk.diff(1, 0);
    Check.due("from 1 to 0", Check.hunksOf(desk, 0), "1,0,1,0");
    desk.diff(2, 1);
    Check.due("from 2 to 1", Check.hunksOf(desk, 9), "0,2,1,2");
    Check.dueThrowAndNoChange("diff(0, 2)", IllegalStateException.class, desk, () -> desk.diff(0, 2));
    Check.dueThrowAndNoChange("diff(0, 3)", IllegalArgumentException.class, desk, () -> desk.diff(0, 3));
    Check.due("those that threw made none", Check.hunksOf(desk, 9), "0,2,1,2");
    desk.diff(1, 1);
    Check.due("from 1 to 1", Check.hunksOf(desk, 9), "");
  }

  private static void scriptAsItWas() {
    DiffDesk desk = diffed(Check.row(1, 2, 3, 4), Check.row(1, 2, 3));
    String want = "2,2,0,1";
    Check.due("at first", Check.hunksOf(desk, 1), want);
    desk.load(1, 0, 5);
    Check.due("behind load", Check.hunksOf(desk, 1), want);
    desk.forget();
    Check.due("behind forget", Check.hunksOf(desk, 1), want);
    for (int k = 0; k < 61; k++) {
      desk.load(0, 0, 1);
    }
    Check.due("behind a full script", Check.hunksOf(desk, 1), want);
    desk.alike(1, 0);
    desk.merge();
    desk.forget();
    desk.patch(1);
    Check.due("behind alike, merge and patch", Check.hunksOf(desk, 1), want);
  }

  private static void rowAsItWas() {
    for (int a = 0; a < 3; a++) {
      int b = (a + 1) % 3;
      DiffDesk desk = new DiffDesk(40);
      Check.feed(desk, a, 1, 2, 3, 4);
      Check.feed(desk, b, 1, 2, 3);
      desk.diff(a, b);
      Check.feed(desk, a, 5, 6, 7);
      Check.due("behind feed", Check.hunksOf(desk, 9), "0,4,0,1");
      desk.clear(a);
      Check.due("behind clear", Check.hunksOf(desk, 9), "0,4,0,1");
      Check.due("behind clear with 1 around", Check.hunksOf(desk, 1), "2,2,0,1");
      desk.clear(b);
      Check.due("behind clear of b", Check.hunksOf(desk, 9), "0,4,0,1");
    }
  }

  private static void neverCalled() {
    DiffDesk desk = Check.desk(40, Check.row(1), Check.row(2), Check.row());
    desk.load(1, 0, 5);
    desk.patch(0);
    desk.merge();
    desk.alike(0, 1);
    for (int n = 0; n <= 9; n++) {
      Check.due("hunks(" + n + ") before diff", Check.hunksOf(desk, n), "");
    }
    desk.diff(0, 1);
    Check.due("hunks(0) behind diff", desk.hunks(0), 1);
  }

  private static void onlyThrown() {
    DiffDesk desk = Check.desk(0, Check.row(1), Check.row(2), Check.row());
    Check.dueThrow("diff", IllegalStateException.class, () -> desk.diff(0, 1));
    Check.dueThrow("diff", IllegalArgumentException.class, () -> desk.diff(0, 3));
    for (int n = 0; n <= 9; n++) {
      Check.due("hunks(" + n + ")", Check.hunksOf(desk, n), "");
    }
  }

  private static void hunksAround() {
    DiffDesk desk = diffed(Check.row(1, 2), Check.row(2));
    for (int n : NO_AROUND) {
      Check.due("hunks(" + n + ")", desk.hunks(n), 0);
    }
    for (int n = 0; n <= 9; n++) {
      Check.due("hunks(" + n + ")", desk.hunks(n), 1);
    }
  }

  private static void hunkTells() {
    DiffDesk desk = diffed(Check.row(1, 2, 3, 4, 5, 6), Check.row(9, 8, 2, 3, 4, 5, 7));
    Check.due("script", Check.scriptOf(desk, 5), "-0:1 +1:9 +1:8 -5:6 +6:7");
    Check.due("0 around", Check.hunksOf(desk, 0), "0,1,2,1 5,1,1,1");
    Check.due("1 around", Check.hunksOf(desk, 1), "0,2,2,1 4,2,1,1");
    Check.due("2 around", Check.hunksOf(desk, 2), "0,6,3,2");
  }

  private static void hunkNoSuchOne() {
    DiffDesk desk = diffed(Check.row(1, 2, 3, 4, 5), Check.row(2, 3, 4));
    Check.due("two hunks", desk.hunks(1), 2);
    Check.due("one hunk", desk.hunks(2), 1);
    for (int what = 0; what < 4; what++) {
      for (int k : new int[] {-1, 2, 3, Integer.MIN_VALUE, Integer.MAX_VALUE}) {
        Check.due("hunk(1, " + k + ", " + what + ")", desk.hunk(1, k, what), -1);
      }
      Check.due("hunk(1, 1, " + what + ") is there", desk.hunk(1, 1, what) >= 0, true);
      Check.due("hunk(2, 1, " + what + ")", desk.hunk(2, 1, what), -1);
      Check.due("hunk(2, 0, " + what + ") is there", desk.hunk(2, 0, what) >= 0, true);
      Check.due("hunk(0, 0, " + what + ") without diff", new DiffDesk(40).hunk(0, 0, what), -1);
    }
  }

  private static void hunkAround() {
    DiffDesk desk = diffed(Check.row(1, 2), Check.row(2));
    for (int what = 0; what < 4; what++) {
      for (int n : NO_AROUND) {
        Check.due("hunk(" + n + ", 0, " + what + ")", desk.hunk(n, 0, what), -1);
      }
      Check.due("hunk(0, 0, " + what + ") is there", desk.hunk(0, 0, what) >= 0, true);
      Check.due("hunk(9, 0, " + what + ") is there", desk.hunk(9, 0, what) >= 0, true);
    }
  }

  private static void hunkNoSuchWhat() {
    DiffDesk desk = diffed(Check.row(1, 2, 3), Check.row(1, 3));
    for (int what : new int[] {-1, 4, 5, Integer.MIN_VALUE, Integer.MAX_VALUE}) {
      Check.due("hunk(0, 0, " + what + ")", desk.hunk(0, 0, what), -1);
      Check.due("hunk(0, 1, " + what + ")", desk.hunk(0, 1, what), -1);
    }
    Check.due("hunk(0, 0, 0)", desk.hunk(0, 0, 0), 1);
    Check.due("hunk(0, 0, 3)", desk.hunk(0, 0, 3), 1);
  }
}
