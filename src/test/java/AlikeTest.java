/** Promise 16: alike. */
public final class AlikeTest {
  public static void main(String[] args) {
    ordinary();
    emptyRows();
    noSuchRow();
    limitDoesNotCount();
    changesNothing();
    Check.end("AlikeTest");
  }

  private static void dueAlike(float want, int[] a, int[] b) {
    DiffDesk desk = Check.desk(40, a, b, Check.row());
    Check.due("alike(0, 1)", desk.alike(0, 1), want);
    Check.due("alike(1, 0)", desk.alike(1, 0), want);
  }

  private static void ordinary() {
    dueAlike(1.0f, Check.row(1, 2), Check.row(1, 2));
    dueAlike(0.0f, Check.row(1, 2), Check.row(3, 4, 5));
    dueAlike(0.5f, Check.row(1, 2), Check.row(1, 3));
    dueAlike(2.0f / 3.0f, Check.row(1), Check.row(1, 2));
    dueAlike(8.0f / 13.0f, Check.row(1, 2, 3, 1, 2, 2, 1), Check.row(3, 2, 1, 2, 1, 3));
    dueAlike(4.0f / 6.0f, Check.row(1, 2, 3), Check.row(2, 3, 1));
    DiffDesk full = new DiffDesk(40);
    Check.feedSame(full, 1, 5, 20);
    Check.feedSame(full, 2, 5, 19);
    Check.due("full rows", full.alike(1, 2), 38.0f / 39.0f);
    Check.due("a row and itself", full.alike(2, 2), 1.0f);
  }

  private static void emptyRows() {
    dueAlike(1.0f, Check.row(), Check.row());
    dueAlike(0.0f, Check.row(1), Check.row());
    Check.due("an empty row and itself", new DiffDesk(0).alike(2, 2), 1.0f);
  }

  private static void noSuchRow() {
    DiffDesk desk = Check.desk(40, Check.row(1), Check.row(), Check.row());
    for (int row : new int[] {-1, 3, Integer.MIN_VALUE, Integer.MAX_VALUE}) {
      Check.due("alike(0, " + row + ")", desk.alike(0, row), -1.0f);
      Check.due("alike(" + row + ", 1)", desk.alike(row, 1), -1.0f);
      Check.due("alike(" + row + ", " + row + ")", desk.alike(row, row), -1.0f);
    }
  }

  private static void limitDoesNotCount() {
    DiffDesk desk = Check.desk(0, Check.row(1, 2), Check.row(1, 3), Check.row());
    Check.due("alike with LIMIT 0", desk.alike(0, 1), 0.5f);
  }

  private static void changesNothing() {
    DiffDesk desk = Check.desk(40, Check.row(1, 2), Check.row(1, 3), Check.row(4));
    desk.diff(0, 1);
    desk.patch(0);
    desk.alike(1, 2);
    desk.alike(0, 7);
    Check.due("script after alike", Check.scriptOf(desk, 2), "-1:2 +2:3");
    Check.due("hunks after alike", Check.hunksOf(desk, 0), "1,1,1,1");
    Check.due("result after alike", Check.resultOf(desk), "1 3");
  }
}
