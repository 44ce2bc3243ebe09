import java.util.ArrayList;
import java.util.List;

// Long runs of calls against a second program of the same document, written the slowest way:
// nothing is kept that can be reckoned anew, and sets are tried by recursion.
public final class ModelTest {
  private static final int BAD = -1, FULL = -2, FINDING = -3, STATE = -4;

  private static final class Model {
    int n = 10;
    int[] kind = new int[40], bed = new int[40], firm = new int[40], kept = new int[40], over = new int[40];
    boolean[] lost = new boolean[40];
    List<Integer> train = new ArrayList<>();
    int[] table = new int[16];
    int[][] runs = new int[6][];
    int[] free = {250, 250, 250, 250};
    List<int[]> works = new ArrayList<>();
    int finding;
    int[] findings = new int[6];
    long asked;

    Model() {
      line(10);
    }

    int line(int size) {
      if (size < 3 || size > 40) return BAD;
      n = size;
      kind = new int[40];
      bed = new int[40];
      firm = new int[40];
      java.util.Arrays.fill(firm, 5);
      kept = new int[40];
      over = new int[40];
      lost = new boolean[40];
      return n;
    }

    int find(int f) {
      finding = f;
      findings[f]++;
      return FINDING;
    }

    int tell(long v) {
      asked = v;
      return 1;
    }

    boolean none(int i) {
      return i < 0 || i >= n;
    }

    int sleeper(int i, int k) {
      if (none(i) || k < 0 || k > 3) return BAD;
      int was = kind[i];
      kind[i] = k;
      lost[i] = false;
      return was;
    }

    int lose(int i, boolean is) {
      if (none(i)) return BAD;
      int was = lost[i] ? 1 : 0;
      lost[i] = is;
      return was;
    }

    int bed(int i, int v) {
      if (none(i) || v < -10000 || v > 10000) return BAD;
      if (lost[i]) return find(1);
      int was = bed[i];
      bed[i] = v;
      return tell(was);
    }

    int stones(int i, int v) {
      if (none(i) || v < 1 || v > 9) return BAD;
      if (lost[i]) return find(1);
      int was = firm[i];
      firm[i] = v;
      return was;
    }

    int told(int i, int what) {
      if (none(i) || what < 0 || what > 3) return BAD;
      return new int[] {kind[i], firm[i], kept[i], lost[i] ? 1 : 0}[what];
    }

    int mark(int i, int k) {
      if (none(i) || k < 1 || k > 3) return BAD;
      if (lost[i]) return find(1);
      boolean wood = kind[i] == 1 || kind[i] == 3;
      if (k == 1) return wood ? kept[i] : find(3);
      if (kind[i] != k) return find(3);
      return k == 2 ? firm[i] : over[i];
    }

    // The greatest line as a fraction, cut down at the last.
    long height(int i) {
      long num = 0, den = 0;
      for (int a = 0; a <= i; a++) {
        for (int b = i; b < n; b++) {
          if (b - a > 4 || lost[a] || lost[b]) continue;
          long p = a == b ? bed[i] : (long) bed[a] * (b - a) + (long) (bed[b] - bed[a]) * (i - a);
          long q = a == b ? 1 : b - a;
          if (den == 0 || p * den > num * q) {
            num = p;
            den = q;
          }
        }
      }
      if (den != 0) return Math.floorDiv(num, den);
      int near = -1;
      for (int j = 0; j < n; j++) {
        if (!lost[j] && (near < 0 || Math.abs(j - i) < Math.abs(near - i))) near = j;
      }
      return near < 0 ? 0 : bed[near];
    }

    int rail(int i) {
      return none(i) ? BAD : tell(height(i));
    }

    int gap(int i) {
      if (none(i)) return BAD;
      if (lost[i]) return find(1);
      return (int) (height(i) - bed[i]);
    }

    int axle(int w) {
      if (w < 1 || w > 250) return BAD;
      if (train.size() == 20) return FULL;
      train.add(w);
      return train.size();
    }

    int uncouple() {
      int had = train.size();
      train.clear();
      return had;
    }

    int table(int i, int v) {
      if (i < 0 || i > 15) return BAD;
      int was = table[i];
      int low = v & 255;
      table[i] = low > 127 ? low - 256 : low;
      return was + 1000;
    }

    int pass(int times) {
      if (times < 0 || times > 50) return BAD;
      if (train.isEmpty()) return STATE;
      long before = 0, after = 0;
      for (int b : bed) before += b;
      for (int t = 0; t < times; t++) {
        for (int i = 0; i < n; i++) {
          for (int w : train) over(i, w);
        }
      }
      for (int b : bed) after += b;
      return (int) (before - after);
    }

    void over(int i, int weight) {
      int w = weight;
      if (kind[i] == 3 && !lost[i]) {
        over[i]++;
        w = weight * 3 / 2;
      }
      int[] part = new int[3];
      int all = 0;
      for (int d = -1; d <= 1; d++) {
        int j = i + d;
        if (none(j) || lost[j] || height(j) > bed[j]) continue;
        part[d + 1] = d == 0 ? 2 : 1;
        all += part[d + 1];
      }
      for (int d = -1; d <= 1; d++) {
        if (part[d + 1] > 0) sink(i + d, w * part[d + 1] / all);
      }
    }

    void sink(int i, int borne) {
      int place = borne / firm[i];
      int by = table[place > 15 ? 15 : place];
      if (by < 0) by = 0;
      int quarter = by / 4;
      kept[i] += kind[i] == 2 ? by + quarter : kind[i] == 0 ? by : by - quarter;
      while (kept[i] >= 100) {
        kept[i] -= 100;
        bed[i]--;
      }
    }

    int mean() {
      double sum = 0, of = 0;
      for (int i = 0; i < n; i++) {
        if (lost[i]) continue;
        sum += bed[i];
        of++;
      }
      return of == 0 ? find(4) : tell((long) Math.floor(sum / of));
    }

    int lift(int a, int b, int h) {
      if (none(a) || none(b) || a > b || h < -10000 || h > 10000) return BAD;
      int lifted = 0;
      for (int i = a; i <= b; i++) {
        if (lost[i] || bed[i] >= h) continue;
        bed[i] = h;
        kept[i] = 0;
        if (firm[i] > 1) firm[i]--;
        lifted++;
      }
      return lifted;
    }

    long chord(int i, int k) {
      return i - k < 0 || i + k >= n ? 0 : 2 * height(i) - height(i - k) - height(i + k);
    }

    boolean noRun(int r) {
      return r < 0 || r > 5;
    }

    int measure(int r, int k) {
      if (noRun(r) || k < 1 || k > 4) return BAD;
      int was = runs[r] == null ? 0 : 1;
      runs[r] = new int[40];
      for (int i = 0; i < n; i++) runs[r][i] = (int) chord(i, k);
      return was;
    }

    int level(int r) {
      if (noRun(r)) return BAD;
      int was = runs[r] == null ? 0 : 1;
      runs[r] = new int[40];
      for (int i = 0; i < n; i++) runs[r][i] = (int) height(i);
      return was;
    }

    int lay(int r, int i, int v) {
      if (noRun(r) || v < -100000 || v > 100000) return BAD;
      if (runs[r] == null) return find(1);
      if (i < 0 || i > 39) return find(2);
      int was = runs[r][i];
      runs[r][i] = v;
      return tell(was);
    }

    int at(int r, int i) {
      if (noRun(r)) return BAD;
      if (runs[r] == null) return find(1);
      if (i < 0 || i > 39) return find(2);
      return tell(runs[r][i]);
    }

    int shape(int r, int s0, int s1) {
      if (noRun(r) || Math.abs((long) s0) > 10000 || Math.abs((long) s1) > 10000) return BAD;
      if (runs[r] == null) return find(1);
      int[] h = new int[40];
      h[0] = s0;
      h[1] = s1;
      for (int i = 2; i < n; i++) h[i] = (int) (2L * h[i - 1] - h[i - 2] - runs[r][i - 1]);
      runs[r] = h;
      return 1;
    }

    int tear(int r) {
      if (noRun(r)) return BAD;
      if (runs[r] == null) return find(1);
      runs[r] = null;
      return 1;
    }

    int copy(int r, int i, int to, int j, int count) {
      if (noRun(r) || noRun(to)) return BAD;
      if (count < 0) return find(5);
      if (runs[r] == null || runs[to] == null) return find(1);
      if (i < 0 || j < 0 || (long) i + count > 40 || (long) j + count > 40) return find(2);
      int[] from = runs[r].clone();
      for (int p = 0; p < count; p++) runs[to][j + p] = from[i + p];
      return 1;
    }

    int fit(int r, int other) {
      if (noRun(r) || noRun(other)) return BAD;
      if (n < 11) return STATE;
      if (runs[r] == null || runs[other] == null) return find(1);
      int best = -9;
      long least = 0;
      for (int d = 5; d >= -5; d--) {
        long sum = 0;
        for (int i = 5; i <= n - 6; i++) {
          long apart = (long) runs[r][i] - (long) runs[other][i + d];
          sum += apart * apart;
        }
        boolean nearer = Math.abs(d) < Math.abs(best) || Math.abs(d) == Math.abs(best) && d < best;
        if (best == -9 || sum < least || sum == least && nearer) {
          best = d;
          least = sum;
        }
      }
      tell(least);
      return 100 + best;
    }

    int worst(int r) {
      if (noRun(r)) return BAD;
      if (runs[r] == null) return find(1);
      int place = -1;
      long most = -1;
      for (int i = n - 2; i >= 0; i--) {
        long step = Math.abs((long) runs[r][i] - (long) runs[r][i + 1]);
        if (step >= most) {
          most = step;
          place = i;
        }
      }
      tell(most);
      return place;
    }

    boolean noStretch(int s) {
      return s < 0 || s > 3;
    }

    boolean noHeat(int t) {
      return t < -400 || t > 600;
    }

    int pull(int s, int by) {
      if (noStretch(s) || by < -500 || by > 500) return BAD;
      free[s] += by;
      return 1;
    }

    int cut(int s, int t) {
      if (noStretch(s) || noHeat(t)) return BAD;
      int was = free[s];
      free[s] = t;
      return tell(was);
    }

    int press(int s, int t) {
      return noStretch(s) || noHeat(t) ? BAD : tell(24L * (t - free[s]));
    }

    int margin(int s, int t) {
      if (noStretch(s) || noHeat(t)) return BAD;
      long sum = 0, of = 0, chord = 0;
      for (int i = 0; i < n; i++) {
        int mine = n / 4 == 0 ? 3 : Math.min(3, i / (n / 4));
        if (mine != s) continue;
        if (!lost[i]) {
          sum += firm[i];
          of++;
        }
        chord = Math.max(chord, Math.abs(chord(i, 1)));
      }
      if (of == 0) return find(4);
      long left = 9000 + sum / of * 300 - chord * 60 - 24L * (t - free[s]);
      tell(left);
      return left <= 0 ? 1 : 0;
    }

    int work(int cost, int gain) {
      if (cost < 1 || cost > 1000 || gain < 0 || gain > 1000) return BAD;
      if (works.size() == 14) return FULL;
      works.add(new int[] {cost, gain});
      return works.size() - 1;
    }

    // {gain, cost, bits} of the best set among the WORKS from one on.
    int[] bestFrom(int from, int budget) {
      if (from == works.size()) return new int[] {0, 0, 0};
      int[] without = bestFrom(from + 1, budget);
      int[] w = works.get(from);
      if (w[0] > budget) return without;
      int[] with = bestFrom(from + 1, budget - w[0]);
      with[0] += w[1];
      with[1] += w[0];
      with[2] |= 1 << from;
      for (int by = 0; by < 3; by++) {
        if (with[by] != without[by]) return with[by] > without[by] == (by == 0) ? with : without;
      }
      return without;
    }

    int best(int budget) {
      if (budget < 0 || budget > 14000) return BAD;
      int[] set = bestFrom(0, budget);
      tell(set[2]);
      return set[0];
    }

    int first(int budget) {
      if (budget < 0 || budget > 14000) return BAD;
      List<Integer> order = new ArrayList<>();
      for (int i = 0; i < works.size(); i++) order.add(i);
      order.sort((a, b) -> works.get(b)[1] * works.get(a)[0] - works.get(a)[1] * works.get(b)[0]);
      int left = budget, gain = 0, bits = 0;
      for (int i : order) {
        if (works.get(i)[0] > left) continue;
        left -= works.get(i)[0];
        gain += works.get(i)[1];
        bits |= 1 << i;
      }
      tell(bits);
      return gain;
    }

    int count(int what) {
      int lostOnes = 0, there = 0;
      for (int i = 0; i < n; i++) if (lost[i]) lostOnes++;
      for (int[] run : runs) if (run != null) there++;
      return what < 0 || what > 4 ? BAD : new int[] {n, lostOnes, train.size(), there, works.size()}[what];
    }

    int findings(int f) {
      return f < 1 || f > 5 ? BAD : findings[f];
    }

    long digest() {
      List<Long> all = new ArrayList<>();
      for (int what = 0; what < 5; what++) all.add((long) count(what));
      for (int i = 0; i < n; i++) {
        for (int what = 0; what < 4; what++) all.add((long) told(i, what));
        all.add((long) bed[i]);
      }
      for (int f : free) all.add((long) f);
      for (int[] run : runs) {
        if (run == null) all.add(-1L);
        else for (int v : run) all.add((long) v);
      }
      long h = 17;
      for (long v : all) h = 31 * h + v;
      return h;
    }
  }

  // Some numbers that look drawn, the same ones each time.
  private static final class Draw {
    long state;
    final int ways;

    // Each fourth one draws numbers that are none, and the ends of what is one, far more often.
    Draw(long seed) {
      ways = seed % 4 == 0 ? 14 : 60;
      state = seed * 0x9E3779B97F4A7C15L + 77;
    }

    int below(int n) {
      state = state * 6364136223846793005L + 1442695040888963407L;
      return (int) Math.floorMod(state >> 33, (long) n);
    }

    int of(int least, int most) {
      return least + below(most - least + 1);
    }

    // Mostly a number that is one, now and then none.
    int around(int least, int most) {
      int way = below(ways);
      if (way == 0) return least - 1;
      if (way == 1) return most + 1;
      if (way == 2) return below(2) == 0 ? Integer.MIN_VALUE : Integer.MAX_VALUE;
      if (way < 6) return below(2) == 0 ? least : most;
      return of(least, most);
    }
  }

  private static int wrong = 0;

  private static void due(long run, int step, String call, long got, long want) {
    if (got != want) {
      wrong++;
      System.out.println("run " + run + ", step " + step + ": " + call + " answered " + got + ", due is " + want);
    }
  }

  private static void step(long run, int step, Draw d, BallastLine x, Model m, int spread) {
    int i = d.around(0, m.n - 1), r = d.around(0, 5), s = d.around(0, 3);
    switch (d.below(40)) {
      case 0: {
        int n = d.below(6) == 0 ? d.around(3, 40) : m.n;
        if (d.below(4) == 0) due(run, step, "line(" + n + ")", x.line(n), m.line(n));
        break;
      }
      case 1: case 2: {
        int k = d.around(0, 3);
        due(run, step, "sleeper(" + i + ", " + k + ")", x.sleeper(i, k), m.sleeper(i, k));
        break;
      }
      case 3: case 4: {
        boolean is = d.below(3) != 0;
        due(run, step, "lose(" + i + ", " + is + ")", x.lose(i, is), m.lose(i, is));
        break;
      }
      case 5: case 6: case 7: case 8: {
        int v = d.below(12) == 0 ? d.around(-10000, 10000) : d.of(-spread, spread);
        due(run, step, "bed(" + i + ", " + v + ")", x.bed(i, v), m.bed(i, v));
        break;
      }
      case 9: {
        int v = d.around(1, 9);
        due(run, step, "stones(" + i + ", " + v + ")", x.stones(i, v), m.stones(i, v));
        break;
      }
      case 10: {
        int what = d.around(0, 3);
        due(run, step, "told(" + i + ", " + what + ")", x.told(i, what), m.told(i, what));
        break;
      }
      case 11: case 12: {
        int k = d.around(1, 3);
        due(run, step, "mark(" + i + ", " + k + ")", x.mark(i, k), m.mark(i, k));
        break;
      }
      case 13: case 14:
        due(run, step, "rail(" + i + ")", x.rail(i), m.rail(i));
        break;
      case 15: case 16:
        due(run, step, "gap(" + i + ")", x.gap(i), m.gap(i));
        break;
      case 17: {
        int w = d.around(1, 250);
        due(run, step, "axle(" + w + ")", x.axle(w), m.axle(w));
        break;
      }
      case 18:
        if (d.below(5) == 0) due(run, step, "uncouple()", x.uncouple(), m.uncouple());
        break;
      case 19: case 20: {
        int place = d.around(0, 15), v = d.below(5) == 0 ? d.around(-400, 400) : d.of(0, 127);
        due(run, step, "table(" + place + ", " + v + ")", x.table(place, v), m.table(place, v));
        break;
      }
      case 21: case 22: case 23: {
        int n = d.below(8) == 0 ? d.around(0, 50) : d.of(0, 4);
        due(run, step, "pass(" + n + ")", x.pass(n), m.pass(n));
        break;
      }
      case 24:
        due(run, step, "mean()", x.mean(), m.mean());
        break;
      case 25: {
        int b = d.around(0, m.n - 1), h = d.below(8) == 0 ? d.around(-10000, 10000) : d.of(-spread, spread);
        due(run, step, "lift(" + i + ", " + b + ", " + h + ")", x.lift(i, b, h), m.lift(i, b, h));
        break;
      }
      default:
        laterStep(run, step, d, x, m, i, r, s);
    }
  }

  private static void laterStep(long run, int step, Draw d, BallastLine x, Model m, int i, int r, int s) {
    int place = d.around(0, 39);
    switch (d.below(16)) {
      case 0: {
        int k = d.around(1, 4);
        due(run, step, "measure(" + r + ", " + k + ")", x.measure(r, k), m.measure(r, k));
        break;
      }
      case 1:
        due(run, step, "level(" + r + ")", x.level(r), m.level(r));
        break;
      case 2: {
        int v = d.below(3) == 0 ? d.around(-100000, 100000) : d.of(-30, 30);
        due(run, step, "lay(" + r + ", " + place + ", " + v + ")", x.lay(r, place, v), m.lay(r, place, v));
        break;
      }
      case 3:
        due(run, step, "at(" + r + ", " + place + ")", x.at(r, place), m.at(r, place));
        break;
      case 4: {
        int s0 = d.around(-10000, 10000), s1 = d.around(-10000, 10000);
        due(run, step, "shape(" + r + ", " + s0 + ", " + s1 + ")", x.shape(r, s0, s1), m.shape(r, s0, s1));
        break;
      }
      case 5:
        if (d.below(3) == 0) due(run, step, "tear(" + r + ")", x.tear(r), m.tear(r));
        break;
      case 6: {
        int to = d.around(0, 5), j = d.around(0, 8), n = d.around(0, 32), from = d.around(0, 8);
        due(run, step, "copy(" + r + ", " + from + ", " + to + ", " + j + ", " + n + ")",
            x.copy(r, from, to, j, n), m.copy(r, from, to, j, n));
        break;
      }
      case 7: {
        int other = d.around(0, 5);
        due(run, step, "fit(" + r + ", " + other + ")", x.fit(r, other), m.fit(r, other));
        break;
      }
      case 8:
        due(run, step, "worst(" + r + ")", x.worst(r), m.worst(r));
        break;
      case 9: {
        int n = d.around(-500, 500);
        due(run, step, "pull(" + s + ", " + n + ")", x.pull(s, n), m.pull(s, n));
        break;
      }
      case 10: {
        int t = d.around(-400, 600);
        due(run, step, "cut(" + s + ", " + t + ")", x.cut(s, t), m.cut(s, t));
        due(run, step, "press(" + s + ", " + t + ")", x.press(s, t), m.press(s, t));
        break;
      }
      case 11: case 12: {
        int t = d.around(-400, 600);
        due(run, step, "margin(" + s + ", " + t + ")", x.margin(s, t), m.margin(s, t));
        break;
      }
      case 13: {
        boolean small = d.below(2) == 0;
        int cost = small ? d.around(1, 12) : d.around(1, 1000), gain = small ? d.around(0, 12) : d.around(0, 1000);
        due(run, step, "work(" + cost + ", " + gain + ")", x.work(cost, gain), m.work(cost, gain));
        break;
      }
      default: {
        int budget = d.below(2) == 0 ? d.of(0, 90) : d.around(0, 14000);
        due(run, step, "best(" + budget + ")", x.best(budget), m.best(budget));
        due(run, step, "best(" + budget + "), asked()", x.asked(), m.asked);
        due(run, step, "first(" + budget + ")", x.first(budget), m.first(budget));
      }
    }
  }

  private static void run(long run) {
    Draw d = new Draw(run);
    BallastLine x = new BallastLine();
    Model m = new Model();
    int size = d.of(3, 40);
    due(run, 0, "line(" + size + ")", x.line(size), m.line(size));
    int spread = new int[] {1, 3, 10, 100, 3000}[d.below(5)];
    // Seven calls a step at most: an object is used for 512.
    for (int step = 1; step <= 72 && wrong == 0; step++) {
      step(run, step, d, x, m, spread);
      due(run, step, "asked()", x.asked(), m.asked);
      due(run, step, "finding()", x.finding(), m.finding);
      int what = d.around(0, 5);
      due(run, step, "findings(" + what + ")", x.findings(what), m.findings(what));
      due(run, step, "count(" + what + ")", x.count(what), m.count(what));
      due(run, step, "digest()", x.digest(), m.digest());
    }
  }

  public static void main(String[] args) {
    for (long run = 1; run <= 2500 && wrong == 0; run++) {
      run(run);
    }
    System.out.println(wrong == 0 ? "all runs are alike" : wrong + " answers are not as due");
    if (wrong != 0) {
      System.exit(1);
    }
  }
}
