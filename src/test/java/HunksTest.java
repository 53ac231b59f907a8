/** Promises 14 and 15: hunks, hunk. */
public final class HunksTest {
  public static void main(String[] args) {
    neverCalled();
    onlyThrown();
    noOperations();
    distancesBetweenDeletions();
    distancesBehindInsertions();
    edgesOfTheRow();
    insertionsAndDeletions();
    wrongInputs();
    scriptAndRowAsTheyWere();
    fullScript();
    Check.end("HunksTest");
  }

  private static void neverCalled() {
    DiffDesk desk = Check.desk(40, Check.row(1), Check.row(2), Check.row());
    desk.load(1, 0, 5);
    desk.merge();
    desk.alike(0, 1);
    for (int n = -1; n <= 10; n++) {
      Check.due("hunks(" + n + ") before diff", Check.hunksOf(desk, n), "");
    }
  }

  private static void onlyThrown() {
    DiffDesk desk = Check.desk(0, Check.row(1), Check.row(2), Check.row());
    Check.dueThrow("diff", IllegalStateException.class, () -> desk.diff(0, 1));
    Check.due("hunks behind a diff that threw", Check.hunksOf(desk, 3), "");
  }

  private static void noOperations() {
    DiffDesk desk = Check.desk(40, Check.row(1), Check.row(2), Check.row(2));
    desk.diff(0, 1);
    desk.diff(1, 2);
    Check.due("hunks of an empty script", Check.hunksOf(desk, 0), "");
    Check.due("and with 9 around", Check.hunksOf(desk, 9), "");
  }

  private static void distancesBetweenDeletions() {
    DiffDesk desk = Check.desk(40, Check.row(90, 1, 2, 91, 3, 4, 5, 92, 93), Check.row(1, 2, 3, 4, 5), Check.row());
    desk.diff(0, 1);
    Check.due("script", Check.scriptOf(desk, 4), "-0:90 -3:91 -7:92 -8:93");
    Check.due("0 around", Check.hunksOf(desk, 0), "0,1,0,1 3,1,0,1 7,2,0,2");
    Check.due("1 around", Check.hunksOf(desk, 1), "0,5,0,2 6,3,0,2");
    Check.due("2 around", Check.hunksOf(desk, 2), "0,9,0,4");
  }

  private static void distancesBehindInsertions() {
    DiffDesk desk = Check.desk(40, Check.row(1, 2, 3, 4, 5), Check.row(1, 90, 91, 2, 3, 92, 4, 5), Check.row());
    desk.diff(0, 1);
    Check.due("script", Check.scriptOf(desk, 3), "+1:90 +1:91 +3:92");
    Check.due("0 around", Check.hunksOf(desk, 0), "1,0,2,0 3,0,1,0");
    Check.due("1 around", Check.hunksOf(desk, 1), "0,4,3,0");
    Check.due("2 around", Check.hunksOf(desk, 2), "0,5,3,0");
    DiffDesk wider = Check.desk(40, Check.row(1, 2, 3), Check.row(90, 1, 2, 3, 91), Check.row());
    wider.diff(0, 1);
    Check.due("three between, 1 around", Check.hunksOf(wider, 1), "0,1,1,0 2,1,1,0");
    Check.due("three between, 2 around", Check.hunksOf(wider, 2), "0,3,2,0");
  }

  private static void edgesOfTheRow() {
    DiffDesk desk = Check.desk(40, Check.row(1, 2, 3, 4, 5), Check.row(1, 2, 4, 5), Check.row(1, 2, 9, 3, 4, 5));
    desk.diff(0, 1);
    Check.due("0 around", Check.hunksOf(desk, 0), "2,1,0,1");
    Check.due("1 around", Check.hunksOf(desk, 1), "1,3,0,1");
    Check.due("2 around", Check.hunksOf(desk, 2), "0,5,0,1");
    Check.due("3 around", Check.hunksOf(desk, 3), "0,5,0,1");
    Check.due("9 around", Check.hunksOf(desk, 9), "0,5,0,1");
    desk.diff(0, 2);
    Check.due("insertion, 0 around", Check.hunksOf(desk, 0), "2,0,1,0");
    Check.due("insertion, 2 around", Check.hunksOf(desk, 2), "0,4,1,0");
    Check.due("insertion, 3 around", Check.hunksOf(desk, 3), "0,5,1,0");
    desk.clear(0);
    desk.diff(0, 1);
    Check.due("to an empty row", Check.hunksOf(desk, 9), "0,0,4,0");
    desk.diff(1, 0);
    Check.due("all of a row", Check.hunksOf(desk, 0), "0,4,0,4");
  }

  private static void insertionsAndDeletions() {
    DiffDesk desk = Check.desk(40, Check.row(1, 2, 3, 4, 5, 6), Check.row(9, 8, 2, 3, 4, 5, 7), Check.row());
    desk.diff(0, 1);
    Check.due("script", Check.scriptOf(desk, 5), "-0:1 +1:9 +1:8 -5:6 +6:7");
    Check.due("0 around", Check.hunksOf(desk, 0), "0,1,2,1 5,1,1,1");
    Check.due("1 around", Check.hunksOf(desk, 1), "0,2,2,1 4,2,1,1");
    Check.due("2 around", Check.hunksOf(desk, 2), "0,6,3,2");
  }

  private static void wrongInputs() {
    DiffDesk desk = Check.desk(40, Check.row(1, 2), Check.row(2), Check.row());
    desk.diff(0, 1);
    for (int n : new int[] {-1, 10, Integer.MIN_VALUE, Integer.MAX_VALUE}) {
      Check.due("hunks(" + n + ")", desk.hunks(n), 0);
      Check.due("hunk(" + n + ", 0, 0)", desk.hunk(n, 0, 0), -1);
    }
    for (int k : new int[] {-1, 1, Integer.MIN_VALUE, Integer.MAX_VALUE}) {
      for (int what = 0; what < 4; what++) {
        Check.due("hunk(0, " + k + ", " + what + ")", desk.hunk(0, k, what), -1);
      }
    }
    for (int what : new int[] {-1, 4, Integer.MIN_VALUE, Integer.MAX_VALUE}) {
      Check.due("hunk(0, 0, " + what + ")", desk.hunk(0, 0, what), -1);
    }
    Check.due("hunks(9)", desk.hunks(9), 1);
  }

  private static void scriptAndRowAsTheyWere() {
    DiffDesk desk = Check.desk(3, Check.row(1, 2, 3, 4), Check.row(1, 2, 3), Check.row(7, 8, 9));
    desk.diff(0, 1);
    String want = "2,2,0,1";
    Check.due("hunk at first", Check.hunksOf(desk, 1), want);
    desk.load(1, 0, 5);
    Check.due("hunk behind load", Check.hunksOf(desk, 1), want);
    desk.forget();
    Check.due("hunk behind forget", Check.hunksOf(desk, 1), want);
    desk.clear(0);
    Check.due("hunk behind clear", Check.hunksOf(desk, 1), want);
    Check.feed(desk, 0, 1, 2, 3, 4, 5, 6, 7);
    Check.due("hunk behind feed", Check.hunksOf(desk, 9), "0,4,0,1");
    Check.dueThrow("diff", IllegalStateException.class, () -> desk.diff(0, 2));
    Check.dueThrow("diff", IllegalArgumentException.class, () -> desk.diff(0, 3));
    desk.alike(1, 2);
    desk.merge();
    Check.due("hunk behind all these", Check.hunksOf(desk, 1), want);
    desk.clear(2);
    desk.diff(1, 2);
    Check.due("the latest diff", Check.hunksOf(desk, 1), "0,3,0,3");
  }

  private static void fullScript() {
    DiffDesk desk = new DiffDesk(40);
    for (int k = 0; k < 20; k++) {
      Check.feed(desk, 0, k);
      if (k % 2 == 1) {
        Check.feed(desk, 1, k);
      }
    }
    desk.diff(0, 1);
    Check.due("ten hunks", desk.hunks(0), 10);
    Check.due("where the last one begins", desk.hunk(0, 9, 0), 18);
    Check.due("one hunk", Check.hunksOf(desk, 1), "0,20,0,10");
    desk.clear(1);
    Check.feedSame(desk, 1, 100, 20);
    desk.diff(0, 1);
    Check.due("forty operations", Check.hunksOf(desk, 0), "0,20,20,20");
  }
}
