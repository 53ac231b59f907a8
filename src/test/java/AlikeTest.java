/** Promise 16: alike. */
public final class AlikeTest {
  public static void main(String[] args) {
    Check.holds("16: twice the number of symbols that the least script keeps, by the number of symbols of both",
        AlikeTest::twiceTheKept);
    Check.holds("16: (all are kept, none is kept)", AlikeTest::allAndNone);
    Check.holds("16: (floats)", AlikeTest::floats);
    Check.holds("16: 1 if both are empty", AlikeTest::bothEmpty);
    Check.holds("16: 1 if both are empty (not if one is)", AlikeTest::oneEmpty);
    Check.holds("16: -1 if there is no such row", AlikeTest::noSuchRow);
    Check.holds("16: (LIMIT is diff's alone)", AlikeTest::limitDoesNotCount);
    Check.holds("16: (nothing is changed)", AlikeTest::changesNothing);
    Check.end("AlikeTest");
  }

  private static void dueAlike(float want, int[] a, int[] b) {
    DiffDesk desk = Check.desk(40, a, b, Check.row());
    Check.due("alike(0, 1)", desk.alike(0, 1), want);
    Check.due("alike(1, 0)", desk.alike(1, 0), want);
  }

  private static void twiceTheKept() {
    dueAlike(0.5f, Check.row(1, 2), Check.row(1, 3));
    dueAlike(2.0f / 3.0f, Check.row(1), Check.row(1, 2));
    dueAlike(8.0f / 13.0f, Check.row(1, 2, 3, 1, 2, 2, 1), Check.row(3, 2, 1, 2, 1, 3));
    dueAlike(4.0f / 6.0f, Check.row(1, 2, 3), Check.row(2, 3, 1));
    DiffDesk desk = Check.desk(40, Check.row(1), Check.row(1, 2, 3), Check.row(3));
    Check.due("alike(0, 2)", desk.alike(0, 2), 0.0f);
    Check.due("alike(2, 1)", desk.alike(2, 1), 0.5f);
  }

  private static void allAndNone() {
    dueAlike(1.0f, Check.row(1), Check.row(1));
    dueAlike(0.0f, Check.row(1), Check.row(2));
    dueAlike(1.0f, Check.range(0, 20), Check.range(0, 20));
    dueAlike(0.0f, Check.range(0, 20), Check.range(20, 40));
    DiffDesk desk = Check.desk(40, Check.row(1, 2), Check.range(5, 25), Check.row());
    for (int row = 0; row < 3; row++) {
      Check.due("row " + row + " and itself", desk.alike(row, row), 1.0f);
    }
  }

  private static void floats() {
    for (int kept = 0; kept <= 19; kept++) {
      int[] both = Check.range(0, kept);
      int[] a = Check.join(both, Check.same(100, 20 - kept));
      int[] b = Check.join(both, Check.same(200, 19 - kept));
      dueAlike((float) (2 * kept) / 39.0f, a, b);
    }
  }

  private static void bothEmpty() {
    DiffDesk desk = new DiffDesk(0);
    for (int a = 0; a < 3; a++) {
      for (int b = 0; b < 3; b++) {
        Check.due("alike(" + a + ", " + b + ")", desk.alike(a, b), 1.0f);
      }
    }
    Check.feed(desk, 0, 1);
    desk.clear(0);
    Check.due("a cleared row and a new one", desk.alike(0, 1), 1.0f);
  }

  private static void oneEmpty() {
    dueAlike(0.0f, Check.row(1), Check.row());
    dueAlike(0.0f, Check.same(1, 20), Check.row());
    DiffDesk desk = Check.desk(40, Check.row(1), Check.row(1), Check.row());
    desk.clear(1);
    Check.due("a row and a cleared one", desk.alike(0, 1), 0.0f);
  }

  private static void noSuchRow() {
    DiffDesk desk = Check.desk(40, Check.row(1), Check.row(), Check.row());
    for (int row : Check.NO_ROWS) {
      for (int there = 0; there < 3; there++) {
        Check.due("alike(" + there + ", " + row + ")", desk.alike(there, row), -1.0f);
        Check.due("alike(" + row + ", " + there + ")", desk.alike(row, there), -1.0f);
      }
      Check.due("alike(" + row + ", " + row + ")", desk.alike(row, row), -1.0f);
    }
    Check.due("alike(0, 2)", desk.alike(0, 2), 0.0f);
    Check.due("alike(2, 0)", desk.alike(2, 0), 0.0f);
    Check.due("alike(2, 2)", desk.alike(2, 2), 1.0f);
  }

  private static void limitDoesNotCount() {
    DiffDesk desk = Check.desk(0, Check.row(1, 2), Check.row(1, 3), Check.row());
    Check.due("alike with LIMIT 0", Check.outcome(() -> desk.alike(0, 1)), 0.5f);
  }

  private static void changesNothing() {
    DiffDesk desk = Check.desk(40, Check.row(1, 2), Check.row(1, 3), Check.row(4));
    desk.diff(0, 1);
    desk.patch(0);
    Check.dueAndNoChange("alike(1, 2)", 0.0f, desk, () -> desk.alike(1, 2));
    Check.dueAndNoChange("alike(0, 7)", -1.0f, desk, () -> desk.alike(0, 7));
  }
}
