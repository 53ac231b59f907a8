import java.util.ArrayList;
import java.util.List;
import java.util.Random;

/**
 * Many runs of calls, each answered by the class and by a model that follows the words of the document with lists
 * and does not share a line with the class. The seed is fixed, so each run of this test makes the same calls.
 */
public final class ModelTest {
  private static final int RUNS = 1500;
  private static final int CALLS = 200;

  public static void main(String[] args) {
    Check.holds("Terms and promises 1 to 16, in runs of calls", ModelTest::manyRuns);
    Check.end("ModelTest");
  }

  private static void manyRuns() {
    Random random = new Random(20261117);
    for (int run = 0; run < RUNS; run++) {
      int limit = random.nextInt(4) == 0 ? random.nextInt(60) - 10 : 40;
      oneRun(random, run, limit, 2 + random.nextInt(5));
    }
  }

  private static void oneRun(Random random, int run, int limit, int symbols) {
    DiffDesk desk = new DiffDesk(limit);
    Model model = new Model(limit);
    for (int call = 0; call < CALLS; call++) {
      int which = random.nextInt(20);
      int x = around(random, 3);
      int y = around(random, 3);
      int z = random.nextInt(symbols);
      String what = "run " + run + ", call " + call + " of kind " + which + " (" + x + ", " + y + ", " + z + ")";
      if (which < 8) {
        int times = random.nextInt(5);
        for (int k = 0; k < times; k++) {
          short symbol = (short) random.nextInt(symbols);
          Check.due(what + " feed", desk.feed(x, symbol), model.feed(x, symbol));
        }
      } else if (which == 8) {
        Check.due(what + " clear", desk.clear(x), model.clear(x));
      } else if (which < 13) {
        Check.due(what + " diff", Check.outcome(() -> desk.diff(x, y)), Check.outcome(() -> model.diff(x, y)));
      } else if (which == 13) {
        desk.forget();
        model.script.clear();
      } else if (which == 14) {
        load(random, desk, model, symbols);
      } else if (which < 17) {
        Check.due(what + " patch", Check.outcome(() -> desk.patch(x)), Check.outcome(() -> model.patch(x)));
      } else if (which < 19) {
        Check.due(what + " merge", desk.merge(), model.merge());
      } else {
        Check.due(what + " alike", desk.alike(x, y), model.alike(x, y));
      }
      compareStates(what, desk, model);
    }
  }

  private static int around(Random random, int bound) {
    return random.nextInt(12) == 0 ? random.nextInt(bound + 2) - 1 : random.nextInt(bound);
  }

  private static void load(Random random, DiffDesk desk, Model model, int symbols) {
    int times = random.nextInt(8) == 0 ? 45 : random.nextInt(4);
    int place = 0;
    for (int k = 0; k < times; k++) {
      int kind = times > 10 ? 1 : around(random, 2);
      place = random.nextInt(10) == 0 ? random.nextInt(24) - 2 : place + random.nextInt(2);
      int symbol = random.nextInt(40) == 0 ? -1 : random.nextInt(symbols);
      Check.due("load", desk.load(kind, place, symbol), model.load(kind, place, symbol));
    }
  }

  private static void compareStates(String what, DiffDesk desk, Model model) {
    for (int row = 0; row < 3; row++) {
      Check.due(what + ": row " + row, Check.rowOf(desk, row), text(model.rows.get(row)));
    }
    StringBuilder script = new StringBuilder();
    for (int[] operation : model.script) {
      int kind = operation[0];
      script.append(kind == 0 ? "-" : kind == 1 ? "+" : kind + "?").append(operation[1]).append(':');
      script.append(operation[2]).append(' ');
    }
    Check.due(what + ": script", Check.scriptOf(desk, model.script.size()), script.toString().trim());
    Check.due(what + ": result", Check.resultOf(desk), text(model.result));
    for (int n = -1; n <= 10; n++) {
      Check.due(what + ": hunks with " + n, Check.hunksOf(desk, n), model.hunks(n));
    }
  }

  private static String text(List<Integer> numbers) {
    StringBuilder text = new StringBuilder();
    for (int number : numbers) {
      text.append(number).append(' ');
    }
    return text.toString().trim();
  }

  private static final class Model {
    private final int limit;
    private final List<List<Integer>> rows = List.of(new ArrayList<>(), new ArrayList<>(), new ArrayList<>());
    private List<int[]> script = new ArrayList<>();
    private List<int[]> latest = new ArrayList<>();
    private int latestSize = 0;
    private List<Integer> result = new ArrayList<>();

    Model(int limit) {
      this.limit = limit < 0 ? 0 : limit > 40 ? 40 : limit;
    }

    private boolean noRow(int row) {
      return row != 0 && row != 1 && row != 2;
    }

    boolean feed(int row, int symbol) {
      return !noRow(row) && rows.get(row).size() < 20 && rows.get(row).add(symbol);
    }

    boolean clear(int row) {
      if (noRow(row)) {
        return false;
      }
      rows.get(row).clear();
      return true;
    }

    boolean load(int kind, int place, int symbol) {
      return script.size() < 60 && script.add(new int[] {kind, place, symbol});
    }

    /** The least number of steps by the definition: each way is tried at each place, with no short cut. */
    private static int rest(List<Integer> a, List<Integer> b, int i, int j, int[][] known) {
      if (known[i][j] > 0) {
        return known[i][j] - 1;
      }
      int least = i == a.size() && j == b.size() ? 0 : 1000;
      if (i < a.size()) {
        least = Math.min(least, 1 + rest(a, b, i + 1, j, known));
      }
      if (j < b.size()) {
        least = Math.min(least, 1 + rest(a, b, i, j + 1, known));
      }
      if (i < a.size() && j < b.size() && a.get(i).equals(b.get(j))) {
        least = Math.min(least, rest(a, b, i + 1, j + 1, known));
      }
      known[i][j] = least + 1;
      return least;
    }

    private static List<int[]> leastScript(List<Integer> a, List<Integer> b, List<Integer> kept) {
      int[][] known = new int[21][21];
      List<int[]> operations = new ArrayList<>();
      int i = 0;
      int j = 0;
      while (i < a.size() || j < b.size()) {
        if (i < a.size() && j < b.size() && a.get(i).equals(b.get(j))) {
          kept.add(j);
          i++;
          j++;
        } else if (i < a.size() && rest(a, b, i + 1, j, known) < rest(a, b, i, j, known)) {
          operations.add(new int[] {0, i, a.get(i)});
          kept.add(-1);
          i++;
        } else {
          operations.add(new int[] {1, i, b.get(j)});
          j++;
        }
      }
      return operations;
    }

    int diff(int a, int b) {
      if (noRow(a) || noRow(b)) {
        throw new IllegalArgumentException();
      }
      List<int[]> least = leastScript(rows.get(a), rows.get(b), new ArrayList<>());
      if (least.size() > limit) {
        throw new IllegalStateException();
      }
      script = new ArrayList<>(least);
      latest = least;
      latestSize = rows.get(a).size();
      return least.size();
    }

    int patch(int row) {
      if (noRow(row)) {
        throw new IllegalArgumentException();
      }
      List<Integer> from = rows.get(row);
      List<Integer> to = new ArrayList<>();
      int taken = 0;
      int[] before = null;
      for (int[] o : script) {
        if (o[0] < 0 || o[0] > 1 || o[2] < 0 || o[2] > 30000) {
          throw new IllegalArgumentException();
        }
        if (o[1] < 0 || o[1] > from.size() || (o[0] == 0 && o[1] == from.size())) {
          throw new IndexOutOfBoundsException();
        }
        if (before != null && (o[1] < before[1] || (before[0] == 0 && o[1] == before[1]))) {
          throw new IndexOutOfBoundsException();
        }
        if (o[0] == 0 && from.get(o[1]) != o[2]) {
          throw new IllegalStateException();
        }
        while (taken < o[1]) {
          to.add(from.get(taken++));
        }
        if (o[0] == 0) {
          taken++;
        } else {
          to.add(o[2]);
        }
        if (to.size() > 60) {
          throw new UnsupportedOperationException();
        }
        before = o;
      }
      to.addAll(from.subList(taken, from.size()));
      if (to.size() > 60) {
        throw new UnsupportedOperationException();
      }
      result = to;
      return to.size();
    }

    int merge() {
      List<Integer> kept1 = new ArrayList<>();
      List<Integer> kept2 = new ArrayList<>();
      leastScript(rows.get(0), rows.get(1), kept1);
      leastScript(rows.get(0), rows.get(2), kept2);
      // The end of the rows counts as one more stable symbol, taken off the result at last.
      kept1.add(rows.get(1).size());
      kept2.add(rows.get(2).size());
      List<Integer> merged = new ArrayList<>();
      int conflicts = 0;
      int before = -1;
      int before1 = -1;
      int before2 = -1;
      for (int k = 0; k <= rows.get(0).size(); k++) {
        if (kept1.get(k) < 0 || kept2.get(k) < 0) {
          continue;
        }
        List<Integer> base = rows.get(0).subList(before + 1, k);
        List<Integer> one = rows.get(1).subList(before1 + 1, kept1.get(k));
        List<Integer> two = rows.get(2).subList(before2 + 1, kept2.get(k));
        if (one.equals(two)) {
          merged.addAll(one);
        } else if (one.equals(base)) {
          merged.addAll(two);
        } else if (two.equals(base)) {
          merged.addAll(one);
        } else {
          conflicts++;
          merged.add(-1);
          merged.addAll(one);
          merged.add(-2);
          merged.addAll(two);
          merged.add(-3);
        }
        if (k < rows.get(0).size()) {
          merged.add(rows.get(0).get(k));
        }
        before = k;
        before1 = kept1.get(k);
        before2 = kept2.get(k);
      }
      result = merged;
      return conflicts;
    }

    float alike(int a, int b) {
      if (noRow(a) || noRow(b)) {
        return -1.0f;
      }
      List<Integer> kept = new ArrayList<>();
      leastScript(rows.get(a), rows.get(b), kept);
      int pairs = 0;
      for (int place : kept) {
        pairs += place >= 0 ? 1 : 0;
      }
      int both = rows.get(a).size() + rows.get(b).size();
      return both == 0 ? 1.0f : 2.0f * pairs / both;
    }

    String hunks(int n) {
      if (n < 0 || n > 9) {
        return "";
      }
      List<List<int[]>> hunks = new ArrayList<>();
      int[] before = null;
      for (int[] o : latest) {
        if (before == null || o[1] - before[1] - (before[0] == 0 ? 1 : 0) > 2 * n) {
          hunks.add(new ArrayList<>());
        }
        hunks.get(hunks.size() - 1).add(o);
        before = o;
      }
      StringBuilder text = new StringBuilder();
      for (List<int[]> hunk : hunks) {
        int begin = Math.max(0, hunk.get(0)[1] - n);
        int[] last = hunk.get(hunk.size() - 1);
        int end = Math.min(latestSize, (last[0] == 0 ? last[1] + 1 : last[1]) + n);
        long inserts = hunk.stream().filter(o -> o[0] == 1).count();
        text.append(begin).append(',').append(end - begin).append(',');
        text.append(inserts).append(',').append(hunk.size() - inserts).append(' ');
      }
      return text.toString().trim();
    }
  }
}
