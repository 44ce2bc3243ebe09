import java.io.IOException;
import java.lang.reflect.Method;
import java.lang.reflect.Modifier;
import java.nio.file.Files;
import java.nio.file.Path;
import java.util.ArrayList;
import java.util.Arrays;
import java.util.HashMap;
import java.util.List;
import java.util.Map;
import java.util.regex.Matcher;
import java.util.regex.Pattern;

// Each sentence of the document that names a boundary has a run of calls of its own, on a new object.
//
// A run is written as calls with what is due: gap(4)=0 answers 0, rail(4)=1:7 answers 1 and asked() tells 7 after it;
// =BAD, =FULL, =STATE and a finding's name are refusals; a call without a due only has to be taken. 0..9 stands for
// each number of these, -1|10 for both, axle(9)*20 for twenty calls, beds(1,2,3) for a line with these BEDS, and
// row(0,5,6) for a RUN whose first places are these.
//
// All that is not refused goes to a twin, too: what is refused changed nothing if both tell the same to the end.
public final class EdgesTest {
  private static final Pattern CALL = Pattern.compile("(\\w+)\\(([^)]*)\\)(?:\\*(\\d+))?(?:=(\\S+))?");
  private static final Pattern README_CALL = Pattern.compile("(?m)^line\\.(\\w+)\\(([^)]*)\\);(?: +// (-?\\d+)\\b)?");
  private static final String[] FINDINGS = {"", "NOTHING", "BEYOND", "UNLIKE", "NOUGHT", "SIZE"};
  private static final Map<String, Integer> REFUSALS = Map.of("BAD", -1, "FULL", -2, "STATE", -4);
  private static final int PROMISES = 37, MOST_CALLS = 512;
  private static final Map<String, Method> METHODS = new HashMap<>();
  private static final int[] edgesOf = new int[PROMISES + 1];
  private static int wrong = 0;

  private static void due(String what, long got, long want) {
    if (got != want) {
      wrong++;
      System.out.println(what + " answered " + got + ", due is " + want);
    }
  }

  private static final class Run {
    final String name;
    final BallastLine x = new BallastLine();
    final BallastLine twin = new BallastLine();
    final int[] findings = new int[6];
    int finding = 0;
    int calls = 0;

    Run(String name) {
      this.name = name;
    }

    long ask(String call, Object... args) {
      calls++;
      return call(x, call, args);
    }

    String words(String call, Object... args) {
      StringBuilder text = new StringBuilder(name).append(": ").append(call).append('(');
      for (int k = 0; k < args.length; k++) {
        text.append(k == 0 ? "" : ", ").append(args[k]);
      }
      return text.append(')').toString();
    }

    void play(String script) {
      for (String part : script.trim().split("\\s+")) {
        Matcher m = CALL.matcher(part);
        if (!m.matches()) {
          throw new IllegalArgumentException(name + ": " + part);
        }
        int times = m.group(3) == null ? 1 : Integer.parseInt(m.group(3));
        String[] args = m.group(2).isEmpty() ? new String[0] : m.group(2).split(",");
        if (m.group(1).equals("beds")) {
          layBeds(args);
        } else if (m.group(1).equals("row")) {
          layRow(args);
        } else {
          for (Object[] each : spread(args)) {
            for (int t = 0; t < times; t++) {
              one(m.group(1), m.group(4), each);
            }
          }
        }
      }
    }

    void layBeds(String[] beds) {
      one("line", null, beds.length);
      for (int i = 0; i < beds.length; i++) {
        one("bed", null, i, Integer.parseInt(beds[i]));
      }
    }

    void layRow(String[] args) {
      int r = Integer.parseInt(args[0]);
      one("level", null, r);
      for (int i = 1; i < args.length; i++) {
        one("lay", null, r, i - 1, Integer.parseInt(args[i]));
      }
    }

    void one(String call, String want, Object... args) {
      long got = ask(call, args);
      String what = words(call, args);
      if (want != null && Character.isLetter(want.charAt(0))) {
        refused(what, want, got);
        return;
      }
      if (!call.startsWith("finding")) {
        due(what + " beside its twin", got, call(twin, call, args));
      }
      if (want == null) {
        if (got < 0) {
          due(what, got, 0);
        }
        return;
      }
      int colon = want.indexOf(':');
      due(what, got, Long.parseLong(colon < 0 ? want : want.substring(0, colon)));
      if (colon >= 0) {
        due(what + ", asked()", ask("asked"), Long.parseLong(want.substring(colon + 1)));
      }
    }

    void refused(String what, String want, long got) {
      if (REFUSALS.containsKey(want)) {
        due(what, got, REFUSALS.get(want));
      } else {
        due(what, got, -3);
        finding = List.of(FINDINGS).indexOf(want);
        findings[finding]++;
      }
      due(what + ", finding()", ask("finding"), finding);
      due(what + ", asked()", ask("asked"), twin.asked());
      due(what + ", digest()", ask("digest"), twin.digest());
    }

    void same(String call, Object... args) {
      due(words(call, args) + " beside its twin, at the end", ask(call, args), call(twin, call, args));
    }

    // What the digest doesn't tell: THE TABLE, the weights, the axles over JOINTS, the WORKS.
    void compare() {
      for (int f = 1; f <= 5; f++) {
        due(words("findings", f), ask("findings", f), findings[f]);
      }
      same("asked");
      for (int budget = 100; budget <= 14000; budget *= 4) {
        same("best", budget);
        same("asked");
        same("first", budget);
        same("asked");
      }
      for (int i = 0; i < 16; i++) {
        same("table", i, 7 * i);
      }
      for (int i = 0; i < twin.count(0); i++) {
        same("sleeper", i, 3);
        same("mark", i, 3);
      }
      if (twin.count(2) > 0) {
        same("pass", 3);
      }
      same("uncouple");
      same("digest");
      if (calls > MOST_CALLS) {
        wrong++;
        System.out.println(name + ": " + calls + " calls, more than are promised");
      }
    }
  }

  private static long call(BallastLine x, String name, Object... args) {
    Method m = METHODS.get(name);
    if (m == null) {
      throw new IllegalArgumentException("no call " + name);
    }
    try {
      return ((Number) m.invoke(x, args)).longValue();
    } catch (ReflectiveOperationException e) {
      throw new IllegalStateException(name, e);
    }
  }

  private static List<Object[]> spread(String[] args) {
    List<Object[]> all = new ArrayList<>();
    all.add(new Object[args.length]);
    for (int k = 0; k < args.length; k++) {
      List<Object[]> next = new ArrayList<>();
      for (Object[] had : all) {
        for (Object value : valuesOf(args[k])) {
          Object[] one = had.clone();
          one[k] = value;
          next.add(one);
        }
      }
      all = next;
    }
    return all;
  }

  private static List<Object> valuesOf(String arg) {
    List<Object> values = new ArrayList<>();
    for (String one : arg.split("\\|")) {
      int dots = one.indexOf("..");
      if (one.equals("true") || one.equals("false")) {
        values.add(one.equals("true"));
      } else if (dots < 0) {
        values.add(number(one));
      } else {
        for (int v = number(one.substring(0, dots)); v <= number(one.substring(dots + 2)); v++) {
          values.add(v);
        }
      }
    }
    return values;
  }

  private static int number(String text) {
    return text.equals("MIN") ? Integer.MIN_VALUE : text.equals("MAX") ? Integer.MAX_VALUE : Integer.parseInt(text);
  }

  // Promise 0: what the terms say of all of them.
  private static void edge(int promise, String sentence, String script) {
    edgesOf[promise]++;
    Run run = new Run(promise + " \"" + sentence + "\"");
    run.play(script);
    run.compare();
  }

  private static void refusals() {
    edge(0, "the first of these that fits, in this order: BAD, FULL",
        "axle(9)*20 axle(0|251)=BAD axle(9)=FULL work(9,9)*14 work(0|1001,9)=BAD work(9,9)=FULL");
    edge(0, "in this order: BAD, .. STATE",
        "pass(-1|51)=BAD pass(0|50)=STATE fit(0,6)=BAD fit(6,0)=BAD fit(0,0)=STATE");
    edge(0, "in this order: BAD, .. FINDING: of a SLEEPER",
        "lose(4,true) bed(4,10001)=BAD bed(4,0)=NOTHING stones(4,0)=BAD stones(4,1)=NOTHING mark(4,0)=BAD"
            + " mark(4,1)=NOTHING lose(0..9,true) margin(0,601)=BAD margin(0,600)=NOUGHT");
    edge(0, "in this order: BAD, .. FINDING: of a RUN",
        "lay(0,0,100001)=BAD lay(0,0,1)=NOTHING shape(0,0,10001)=BAD shape(0,0,0)=NOTHING copy(0,0,6,0,-1)=BAD"
            + " copy(6,0,0,0,-1)=BAD copy(0,0,0,0,-1)=SIZE");
    edge(0, "in this order: .. STATE, FINDING", "fit(0,1)=STATE level(0) fit(0,1)=STATE line(11) fit(0,1)=NOTHING");
    edge(0, "What is refused changes nothing but finding(), findings()",
        "line(12) sleeper(3,3) sleeper(4,2) sleeper(5,1) lose(7,true) bed(2,-9) stones(2,3) axle(30) axle(7)"
            + " table(0..15,33) pass(2) level(1) lay(1,3,77) pull(1,40) cut(2,-30) work(5,6) work(7,2) mean()"
            + " line(2)=BAD sleeper(3,4)=BAD lose(12,true)=BAD bed(7,1)=NOTHING stones(7,1)=NOTHING told(0,4)=BAD"
            + " mark(0,1)=UNLIKE rail(12)=BAD gap(7)=NOTHING axle(0)=BAD table(16,1)=BAD pass(51)=BAD"
            + " lift(3,2,0)=BAD measure(1,5)=BAD measure(6,1)=BAD level(6)=BAD lay(1,40,1)=BEYOND at(1,40)=BEYOND"
            + " shape(0,0,0)=NOTHING tear(0)=NOTHING copy(1,0,1,1,40)=BEYOND copy(1,0,1,1,-1)=SIZE"
            + " copy(1,0,0,0,1)=NOTHING fit(1,0)=NOTHING worst(0)=NOTHING pull(4,1)=BAD cut(4,1)=BAD press(4,1)=BAD"
            + " margin(4,1)=BAD work(0,1)=BAD best(-1)=BAD first(-1)=BAD count(5)=BAD findings(6)=BAD count(3)=1");
    edge(0, "NOTHING (a RUN that is missing)",
        "lay(5,0,1)=NOTHING at(5,0)=NOTHING shape(5,0,0)=NOTHING tear(5)=NOTHING copy(5,0,5,0,1)=NOTHING"
            + " worst(5)=NOTHING line(11) fit(5,5)=NOTHING findings(1)=7 finding()=1");
    edge(0, "NOTHING (.. a SLEEPER that is lost)",
        "lose(9,true) bed(9,1)=NOTHING stones(9,1)=NOTHING mark(9,1)=NOTHING gap(9)=NOTHING findings(1)=4 finding()=1");
    edge(0, "BEYOND (a place that there is not)",
        "level(0) lay(0,-1|40|MIN|MAX,1)=BEYOND at(0,-1|40|MIN|MAX)=BEYOND copy(0,0,0,1,40)=BEYOND findings(2)=9"
            + " finding()=2");
    edge(0, "UNLIKE (a SLEEPER of another KIND)", "mark(0,1..3)=UNLIKE findings(3)=3 finding()=3");
    edge(0, "NOUGHT (shared among none)",
        "lose(0..9,true) mean()=NOUGHT margin(0..3,0)=NOUGHT findings(4)=5 finding()=4");
    edge(0, "SIZE (fewer than none)", "level(0) copy(0,0,0,0,-1|MIN)=SIZE findings(5)=2 finding()=5");
  }

  // The answers that README.md's example tells.
  private static void readme() throws IOException {
    Run run = new Run("README.md");
    Matcher m = README_CALL.matcher(Files.readString(Path.of("README.md")));
    int due = 0;
    while (m.find()) {
      String want = m.group(3) == null ? "" : "=" + m.group(3);
      run.play(m.group(1) + "(" + m.group(2).replace(" ", "") + ")" + want);
      due += want.isEmpty() ? 0 : 1;
    }
    due("README.md: it tells some answers", due > 9 ? 1 : 0, 1);
  }

  private static void newObject() {
    edge(1, "10 SLEEPERS of KIND 0",
        "count(0)=10 told(0..9,0)=0 told(0..9,1)=5 told(0..9,2)=0 told(0..9,3)=0 bed(0..9,0)=1:0 told(10,0)=BAD");
    edge(1, "no axles", "count(2)=0 pass(1)=STATE uncouple()=0 axle(1)=1");
    edge(1, "no .. RUNS", "count(3)=0 at(0..5,0)=NOTHING tear(0..5)=NOTHING level(0)=0");
    edge(1, "no .. WORKS", "count(4)=0 best(0|14000)=0:0 first(0|14000)=0:0 work(1,1)=0");
    edge(1, "THE TABLE (.. all 0 at first)", "table(0..15,0)=1000");
    edge(1, "250 at first", "cut(0..3,0)=1:250");
  }

  private static void line() {
    edge(2, "N 3 ..: the least", "line(3)=3 count(0)=3 told(2,1)=5 told(3,1)=BAD pass(1)=STATE axle(1) pass(1)=0");
    edge(2, ".. 40: the most", "line(40)=40 count(0)=40 told(39,1)=5 told(40,1)=BAD axle(1) pass(1)=0");
    edge(2, "BAD: too few", "line(2|1|0|-1|MIN)=BAD count(0)=10");
    edge(2, "BAD: too many", "line(41|MAX)=BAD count(0)=10");
    edge(2, "N SLEEPERS of KIND 0, as at first: of an N as it was",
        "sleeper(0..9,3) stones(0..9,1) axle(9) table(0..15,50) pass(1) bed(0..9,7) lose(0..9,true) line(10)=10"
            + " told(0..9,0)=0 told(0..9,1)=5 told(0..9,2)=0 told(0..9,3)=0 bed(0..9,0)=1:0 sleeper(0..9,3)=0"
            + " mark(0..9,3)=0");
    edge(2, "N SLEEPERS of KIND 0, as at first: of those that were gone",
        "line(40) sleeper(39,2) stones(39,9) bed(39,5) lose(38,true) line(3)=3 count(1)=0 line(40)=40 told(39,0)=0"
            + " told(39,1)=5 told(38,3)=0 bed(39,0)=1:0 count(1)=0");
    edge(2, "N SLEEPERS of KIND 0, as at first: none hangs",
        "beds(0,-9,0) axle(1) table(0,1) pass(1)=0 told(1,2)=0 line(3)=3 pass(1)=0 told(1,2)=3");
    edge(2, "The TRAIN, THE TABLE, RUNS, stretches, WORKS stay",
        "axle(5) axle(6) table(3,9) level(2) lay(2,39,8) pull(1,5) work(4,5) line(3)=3 count(2)=2 count(3)=1"
            + " count(4)=1 table(3,0)=1009 at(2,39)=1:8 cut(1,0)=1:255 best(4)=5:1");
  }

  private static void sleeper() {
    edge(3, "KIND 0 .. 3", "sleeper(0,0)=0 sleeper(0,3)=0 sleeper(0,2)=3 sleeper(0,1)=2 sleeper(0,0)=1 sleeper(9,3)=0");
    edge(3, "BAD: a KIND that is none", "sleeper(0,-1|4|MIN|MAX)=BAD told(0,0)=0");
    edge(3, "BAD: a SLEEPER that is none",
        "sleeper(-1|10|MIN|MAX,1)=BAD line(3) sleeper(2,1)=0 sleeper(3,1)=BAD line(40) sleeper(39,1)=0"
            + " sleeper(40,1)=BAD");
    edge(3, "its BED, STONES stay", "bed(2,-10000) stones(2,9) sleeper(2,3)=0 told(2,1)=9 bed(2,0)=1:-10000");
    edge(3, "it is not LOST", "sleeper(2,2) lose(2,true) sleeper(2,1)=2 told(2,3)=0 count(1)=0 gap(2)=0 stones(2,1)=5");
    edge(3, "it is not LOST: nor was it", "sleeper(2,0)=0 told(2,3)=0 count(1)=0");
  }

  private static void lose() {
    edge(4, "LOST, or not: 1 if it was",
        "lose(0,false)=0 lose(0,true)=0 lose(0,true)=1 lose(0,false)=1 lose(0,false)=0 lose(9,true)=0 told(9,3)=1");
    edge(4, "A SLEEPER may be LOST: all of them", "lose(0..9,true)=0 count(1)=10 lose(0..9,false)=1 count(1)=0");
    edge(4, "BAD", "lose(-1|10|MIN|MAX,true|false)=BAD line(40) lose(39,true)=0 lose(40,true)=BAD");
    edge(4, "what a LOST one was stays",
        "sleeper(1,2) bed(1,-5) stones(1,8) lose(1,true) lose(1,false) told(1,0)=2 told(1,1)=8 bed(1,0)=1:-5");
  }

  private static void bed() {
    edge(5, "v (-10000 .. 10000)", "bed(0,-10000)=1:0 bed(0,10000)=1:-10000 bed(9,0)=1:0 bed(0,0)=1:10000");
    edge(5, "BAD: v too small", "bed(0,5) bed(0,-10001|MIN)=BAD bed(0,5)=1:5");
    edge(5, "BAD: v too large", "bed(0,5) bed(0,10001|MAX)=BAD bed(0,5)=1:5");
    edge(5, "BAD: a SLEEPER that is none", "bed(-1|10|MIN|MAX,1)=BAD line(40) bed(39,1)=1:0 bed(40,1)=BAD");
    edge(5, "NOTHING: it is LOST", "bed(0,5) lose(0,true) bed(0,6)=NOTHING lose(0,false) bed(0,6)=1:5");
    edge(5, "BED (.. an int): it sinks below -10000",
        "line(3) lose(1..2,true) bed(0,-10000) axle(250) table(15,50) pass(1)=1 mean()=1:-10001"
            + " bed(0,-10000)=1:-10001");
  }

  private static void stones() {
    edge(6, "STONES (1 .. 9; 5 at first)", "stones(0,1)=5 stones(0,9)=1 stones(9,5)=5 told(0,1)=9 told(9,1)=5");
    edge(6, "BAD: too few, too many", "stones(0,0|-1|10|MIN|MAX)=BAD told(0,1)=5");
    edge(6, "BAD: a SLEEPER that is none", "stones(-1|10|MIN|MAX,1)=BAD line(3) stones(3,1)=BAD");
    edge(6, "NOTHING", "lose(3,true) stones(3,1)=NOTHING told(3,1)=5 sleeper(3,0) stones(3,1)=5");
  }

  private static void told() {
    edge(7, "0 its KIND .. 3 LOST (1, 0)", "told(9,0)=0 told(9,1)=5 told(9,2)=0 told(9,3)=0 lose(9,true) told(9,3)=1");
    edge(7, "Of a SLEEPER (LOST, too)",
        "sleeper(0,3) stones(0,7) axle(1) table(0,10) pass(1) lose(0,true) told(0,0)=3 told(0,1)=7 told(0,2)=16"
            + " told(0,3)=1");
    edge(7, "BAD: no such thing", "told(0,-1|4|MIN|MAX)=BAD");
    edge(7, "BAD: a SLEEPER that is none", "told(-1|10|MIN|MAX,0..3)=BAD");
  }

  private static void mark() {
    edge(8, "a WOOD one (JOINT, too) its hundredths",
        "line(3) sleeper(0,1) sleeper(1,3) mark(0..1,1)=0 axle(1) table(0,4) pass(1) mark(0,1)=6 mark(1,1)=9");
    edge(8, "a STONE one its STONES", "sleeper(0,2) mark(0,2)=5 stones(0,1) mark(0,2)=1 stones(0,9) mark(0,2)=9");
    edge(8, "a JOINT how many axles went over it",
        "sleeper(0,3) mark(0,3)=0 axle(1)*20 mark(0,3)=0 pass(0) mark(0,3)=0 pass(1) mark(0,3)=20 pass(50)"
            + " mark(0,3)=1020");
    edge(8, "a JOINT .. at the last SLEEPER, that hangs or that nobody bears",
        "beds(0,-9,-9,-9,0) sleeper(2,3) sleeper(4,3) axle(1) pass(4) mark(2,3)=4 mark(4,3)=4");
    edge(8, "as it was one: not as it was WOOD",
        "sleeper(4,3) axle(1) pass(2) sleeper(4,1) pass(5) sleeper(4,3) mark(4,3)=2");
    edge(8, "as it was one: not as it was LOST",
        "sleeper(4,3) axle(1) pass(2) lose(4,true) pass(3) lose(4,false) mark(4,3)=2");
    edge(8, "(since line())",
        "sleeper(4,3) axle(1) pass(2) mark(4,3)=2 line(10) sleeper(4,3) mark(4,3)=0 pass(1) mark(4,3)=1");
    edge(8, "BAD: also KIND 0", "mark(0,0)=BAD lose(0,true) mark(0,0)=BAD");
    edge(8, "BAD", "mark(0,-1|4|MIN|MAX)=BAD mark(-1|10|MIN|MAX,1..3)=BAD");
    edge(8, "NOTHING: it is LOST: ahead of UNLIKE",
        "lose(0,true) mark(0,1..3)=NOTHING sleeper(1,2) lose(1,true) mark(1,2)=NOTHING");
    edge(8, "UNLIKE: a plain one", "mark(0,1..3)=UNLIKE");
    edge(8, "UNLIKE: a WOOD one", "sleeper(0,1) mark(0,2..3)=UNLIKE mark(0,1)=0");
    edge(8, "UNLIKE: a STONE one", "sleeper(0,2) mark(0,1|3)=UNLIKE mark(0,2)=5");
    edge(8, "UNLIKE: a JOINT", "sleeper(0,3) mark(0,2)=UNLIKE mark(0,1)=0 mark(0,3)=0");
  }

  private static void rail() {
    edge(9, "two SLEEPERS at most 4 apart: 4",
        "beds(0,-90,-90,-90,0) rail(0..4)=1:0 beds(8,0,0,0,4) rail(1)=1:7 rail(3)=1:5");
    edge(9, "two SLEEPERS at most 4 apart: not 5",
        "beds(0,-90,-90,-90,-90,0) rail(1)=1:-23 rail(2)=1:-45 rail(3)=1:-45 rail(4)=1:-23");
    edge(9, "one at it or before, one at it or behind: at the ends", "beds(5,9,9,9,2) rail(0)=1:5 rail(4)=1:2");
    edge(9, "its own BED, if both are it", "beds(0,7,0) rail(0)=1:0 rail(1)=1:7 rail(2)=1:0");
    edge(9, "the greatest", "beds(8,0,0,9,0,0,6) rail(1)=1:8 rail(2)=1:8 rail(4)=1:8 rail(5)=1:7");
    edge(9, "of no LOST ones",
        "beds(9,0,9) rail(1)=1:9 lose(0,true) rail(1)=1:0 lose(0,false) lose(2,true) rail(1)=1:0");
    edge(9, "the height at a LOST one, between two", "beds(9,40,7) lose(1,true) rail(1)=1:8");
    edge(9, "cut down: above 0", "beds(0,-9,1) rail(1)=1:0 beds(2,-9,-9,0) rail(1)=1:1 rail(2)=1:0");
    edge(9, "cut down: below 0", "beds(0,-9,-1) rail(1)=1:-1 beds(-2,-9,-9,0) rail(1)=1:-2 rail(2)=1:-1");
    edge(9, "BEDS at their bounds",
        "beds(10000,-10000,10000,-10000,-10000) rail(1)=1:10000 rail(3)=1:0 rail(4)=1:-10000");
    edge(9, "no such line: at the ends", "beds(4,6,8) lose(0,true) rail(0)=1:6 lose(0,false) lose(2,true) rail(2)=1:6");
    edge(9, "no such line: 4 apart there is one",
        "bed(2,8) bed(6,4) lose(3..5,true) rail(3)=1:7 rail(4)=1:6 rail(5)=1:5");
    edge(9, "no such line: 5 apart there is none", "bed(2,8) bed(7,4) lose(3..6,true) rail(3..4)=1:8 rail(5..6)=1:4");
    edge(9, "the nearest one that is not LOST: far behind",
        "line(40) bed(39,-7) lose(0..38,true) rail(0|19|38|39)=1:-7");
    edge(9, "the nearest one that is not LOST: far before", "line(40) bed(0,8) lose(1..39,true) rail(0|1|20|39)=1:8");
    edge(9, "of alike near ones the lesser",
        "line(11) bed(2,20) bed(8,10) lose(3..7,true) rail(4)=1:20 rail(5)=1:20 rail(6)=1:10 bed(2,-30) rail(5)=1:-30");
    edge(9, "none: 0",
        "bed(0..9,7) lose(0..9,true) rail(0..9)=1:0 line(3) bed(0..2,-7) lose(0..2,true) rail(0..2)=1:0");
    edge(9, "BAD", "rail(-1|10|MIN|MAX)=BAD line(3) rail(2)=1:0 rail(3)=BAD line(40) rail(39)=1:0 rail(40)=BAD");
  }

  private static void gap() {
    edge(10, "how much that is above its own BED: 0", "beds(0,1,0) gap(0..2)=0 beds(0,0,0) gap(0..2)=0");
    edge(10, "how much that is above its own BED: the least", "beds(0,-1,0) gap(1)=1 gap(0)=0 gap(2)=0");
    edge(10, "how much that is above its own BED: the most", "beds(10000,-10000,10000) gap(1)=20000");
    edge(10, "cut down: a line less than 1 above it",
        "beds(0,0,1) gap(1)=0 beds(0,-1,-1) gap(1)=0 beds(0,-2,0,-1) gap(2)=0");
    edge(10, "of the only one", "bed(9,-5) lose(0..8,true) gap(9)=0");
    edge(10, "BAD", "gap(-1|10|MIN|MAX)=BAD line(3) gap(2)=0 gap(3)=BAD");
    edge(10, "NOTHING: it is LOST", "lose(0|9,true) gap(0|9)=NOTHING gap(1)=0");
    edge(10, "asked() is not told", "bed(0,7) bed(0,9) gap(0)=0 asked()=7");
  }

  private static void train() {
    edge(11, "weights (1 .. 250)", "axle(1)=1 axle(250)=2");
    edge(11, "BAD: too light, too heavy", "axle(0|-1|251|MIN|MAX)=BAD count(2)=0 pass(1)=STATE");
    edge(11, "FULL: 20 at most",
        "axle(7)*19 axle(7)=20 axle(7)=FULL count(2)=20 axle(251)=BAD uncouple()=20 axle(7)=1");
    edge(12, "There are no axles: how many there were: none", "uncouple()=0 count(2)=0");
    edge(12, "There are no axles: how many there were: all 20",
        "axle(1)*20 uncouple()=20 uncouple()=0 count(2)=0 pass(0)=STATE");
    edge(13, "place i (0 .. 15)", "table(0,3)=1000 table(15,4)=1000 table(0,0)=1003 table(15,0)=1004");
    edge(13, "BAD", "table(-1|16|MIN|MAX,5)=BAD table(0..15,0)=1000");
    edge(13, "v, cut to a byte: the greatest",
        "table(0,127)=1000 table(0,128)=1127 table(0,255)=872 table(0,256)=999 table(0,257)=1000 table(0,0)=1001");
    edge(13, "v, cut to a byte: the least",
        "table(0,-128)=1000 table(0,-129)=872 table(0,-256)=1127 table(0,-257)=1000 table(0,0)=999");
    edge(13, "v, cut to a byte: of the ends of an int", "table(9,MAX)=1000 table(9,MIN)=999 table(9,0)=1000");
    edge(13, "what it was, and 1000 more: asked() is not told", "table(1,5)=1000 asked()=0");
  }

  private static void pass() {
    edge(14, "n times (0 ..", "axle(250) table(0..15,127) pass(0)=0 told(0..9,2)=0 mean()=1:0");
    edge(14, ".. 50)",
        "line(3) lose(1..2,true) sleeper(0,2) stones(0,1) table(15,127) axle(250)*20 pass(50)=3160 told(0,2)=0");
    edge(14, "BAD", "axle(9) table(0..15,9) pass(-1|51|MIN|MAX)=BAD told(0..9,2)=0");
    edge(14, "STATE: no axles", "table(0..15,9) pass(0|1|50)=STATE axle(9) pass(0)=0 uncouple()=1 pass(0)=STATE");
    edge(14, "THE TABLE: all 0 at first", "axle(250)*20 pass(50)=0 told(0..9,2)=0");
    edge(14, "those of i - 1, i, i + 1 that are there: at the ends",
        "line(3) stones(0..2,1) axle(4) table(1,1) table(2,10) pass(1)=0 told(0,2)=11 told(1,2)=12 told(2,2)=11");
    edge(14, "are not LOST",
        "line(3) stones(0..2,1) axle(4) lose(1,true) table(2,1) table(4,10) pass(1)=0 told(0,2)=11 told(1,2)=0"
            + " told(2,2)=11");
    edge(14, "do not hang",
        "beds(0,-1,0) stones(0..2,1) axle(4) table(2,1) table(4,10) pass(1)=0 told(0,2)=11 told(1,2)=0 told(2,2)=11");
    edge(14, "a SLEEPER with a GAP above 0 hangs: not one with a GAP of 0",
        "beds(0,0,1) stones(0..2,1) axle(4) table(1,1) table(2,10) pass(1)=0 told(0,2)=11 told(1,2)=12 told(2,2)=11");
    edge(14, "none: nobody: all hang",
        "beds(0,-9,-9,-9,0) axle(30) table(0..15,1) pass(1)=0 told(0,2)=2 told(1..3,2)=0 told(4,2)=2");
    edge(14, "none: nobody: all LOST", "lose(0..9,true) axle(30) table(0..15,100) pass(50)=0 told(0..9,2)=0");
    edge(14, "(cut for each): to 0", "line(3) axle(1) table(0,9) pass(1)=0 told(0,2)=18 told(1,2)=27 told(2,2)=18");
    edge(14, "(cut for each): 5 of 3 and of 4 parts",
        "line(3) stones(0..2,1) axle(5) table(1,1) table(2,10) table(3,50) pass(1)=0 told(0,2)=51 told(1,2)=12"
            + " told(2,2)=51");
    edge(14, "(GAPS as they are as the axle comes to it): a change 3 before",
        "line(5) axle(1) table(0,1) pass(1)=0 bed(4,40) pass(1)=0 told(0|4,2)=4 told(1..3,2)=3");
    edge(14, "(GAPS as they are as the axle comes to it): a change 3 behind",
        "line(5) axle(1) table(0,1) pass(1)=0 bed(0,40) pass(1)=0 told(0|4,2)=4 told(1..3,2)=3");
    edge(14, "(GAPS as they are as the axle comes to it): one that is LOST, and is not",
        "beds(0,0,0,0,40) axle(1) table(0,1) pass(1)=0 told(1..3,2)=0 lose(4,true) pass(1)=0 told(0,2)=4"
            + " told(1..2,2)=3 told(3,2)=3 told(4,2)=2 lose(4,false) pass(1)=0 told(0,2)=6 told(1..3,2)=3"
            + " told(4,2)=4");
    edge(14, "(GAPS as they are as the axle comes to it): the first lets one hang for the next",
        "line(3) axle(40) axle(80) stones(0|2,9) stones(1,1) table(13,100) pass(1)=1 bed(1,0)=1:-1 bed(0|2,0)=1:0");
    edge(14, "(one SLEEPER'S pass: all axles of it, before the next SLEEPER)",
        "line(3) axle(80) axle(40) stones(0|2,9) stones(1,1) table(13,100) pass(1)=1 bed(1,0)=1:-1 bed(0|2,0)=1:0");
  }

  private static void sinking() {
    edge(14, "A JOINT at i (not LOST) makes w a half more (cut): of 1, none",
        "line(3) lose(0|2,true) sleeper(1,3) stones(1,1) axle(1) table(1,1) table(2,50) pass(1)=0 told(1,2)=3");
    edge(14, "A JOINT at i (not LOST) makes w a half more (cut): of 3, one",
        "line(3) lose(0|2,true) sleeper(1,3) stones(1,1) axle(3) table(3,1) table(4,10) pass(1)=0 told(1,2)=10");
    edge(14, "A JOINT at i (not LOST) makes w a half more (cut): that is LOST",
        "line(3) sleeper(1,3) lose(1,true) stones(0|2,1) axle(4) table(2,1) table(4,10) pass(1)=0 told(0|2,2)=11"
            + " told(1,2)=0");
    edge(14, "A JOINT at i (not LOST) makes w a half more (cut): that hangs",
        "beds(0,-1,0) sleeper(1,3) stones(0|2,1) axle(4) table(3,1) table(4,10) pass(1)=0 told(0|2,2)=11 told(1,2)=0");
    edge(14, "by its STONES (cut): 14, just below the last place",
        "line(3) lose(1..2,true) stones(0,9) axle(134) table(14,1) table(15,10) pass(1)=0 told(0,2)=2");
    edge(14, "by its STONES (cut): 15, just at the last place",
        "line(3) lose(1..2,true) stones(0,9) axle(135) table(14,1) table(15,10) pass(1)=0 told(0,2)=20");
    edge(14, "by its STONES (cut): 0, and 1",
        "line(3) lose(1..2,true) axle(4) table(0,1) table(1,10) pass(1)=0 told(0,2)=2 uncouple()=1 axle(5) pass(1)=0"
            + " told(0,2)=22");
    edge(14, "that place, or the last one beyond",
        "line(3) lose(1..2,true) stones(0,1) axle(250) table(0..14,9) table(15,1) pass(1)=0 told(0,2)=2 uncouple()=1"
            + " axle(16) pass(1)=0 told(0,2)=4");
    edge(14, "that place, or the last one beyond: 250 and a half more",
        "line(3) lose(1..2,true) sleeper(0,3) stones(0,1) axle(250) table(0..14,9) table(15,1) pass(1)=0 told(0,2)=2");
    edge(14, "a byte below 0 counts as 0",
        "line(3) lose(1..2,true) axle(1) table(0,-1) pass(50)=0 table(0,-128) sleeper(0,1) pass(50)=0 sleeper(0,2)=1"
            + " pass(50)=0 table(0,200) pass(50)=0 told(0,2)=0 mean()=1:0");
    edge(14, "each 100 of these: 99 stay",
        "line(3) lose(2,true) stones(0,2) stones(1,9) axle(30) table(10,49) table(5,50) pass(1)=0 told(0,2)=99"
            + " bed(0,0)=1:0");
    edge(14, "each 100 of these: 100 are a tenth",
        "line(3) lose(2,true) stones(0,2) stones(1,9) axle(30) table(10,49) table(5,51) pass(1)=1 told(0,2)=0"
            + " bed(0,0)=1:-1");
    edge(14, "each 100 of these: 257 are two",
        "line(3) lose(2,true) stones(0,2) stones(1,9) axle(30) table(10,49) table(5,50) pass(1)=0 told(0,2)=99"
            + " sleeper(0,2)=0 table(10,127) table(5,0) pass(1)=2 told(0,2)=57 bed(0,0)=1:-2");
    edge(14, "WOOD takes a quarter of them less (cut)",
        "line(3) lose(1..2,true) sleeper(0,1) axle(1) table(0,3) pass(1)=0 told(0,2)=6 table(0,4) pass(1)=0"
            + " told(0,2)=12 table(0,7) pass(1)=0 told(0,2)=24 table(0,127) pass(1)=2 told(0,2)=16");
    edge(14, "WOOD takes a quarter of them less (cut): a JOINT, too",
        "line(3) lose(1..2,true) sleeper(0,3) axle(1) table(0,3) pass(1)=0 told(0,2)=6 table(0,4) pass(1)=0"
            + " told(0,2)=12 table(0,7) pass(1)=0 told(0,2)=24 table(0,127) pass(1)=2 told(0,2)=16");
    edge(14, "STONE a quarter more (cut)",
        "line(3) lose(1..2,true) sleeper(0,2) axle(1) table(0,3) pass(1)=0 told(0,2)=6 table(0,4) pass(1)=0"
            + " told(0,2)=16 table(0,7) pass(1)=0 told(0,2)=32 table(0,127) pass(1)=3 told(0,2)=48");
    edge(14, "by how much all BEDS went down together", "line(3) axle(1) table(0,100) pass(1)=7 asked()=0 mean()=1:-3");
  }

  private static void mean() {
    edge(15, "cut down: above 0", "beds(0,0,2) mean()=1:0 bed(0,1) mean()=1:1");
    edge(15, "cut down: below 0", "beds(0,0,-1) mean()=1:-1 bed(2,-3) mean()=1:-1 bed(2,-4) mean()=1:-2");
    edge(15, "BEDS that are not LOST: of one", "beds(7,-9,8) lose(0|2,true) mean()=1:-9");
    edge(15, "BEDS that are not LOST: of all at their bounds",
        "line(40) bed(0..39,10000) mean()=1:10000 bed(39,9999) mean()=1:9999");
    edge(15, "NOUGHT", "line(3) bed(0,7) lose(0..2,true) mean()=NOUGHT sleeper(0,1) mean()=1:7");
  }

  private static void lift() {
    edge(16, "BEDS below h become h: just below, at it, above",
        "beds(-1,0,1) lift(0,2,0)=1 bed(0|1,0)=1:0 bed(2,0)=1:1");
    edge(16, "from a to b: one", "beds(-9,-9,-9) lift(1,1,0)=1 bed(0|2,-9)=1:-9 bed(1,0)=1:0");
    edge(16, "from a to b: all", "line(40) bed(0..39,-1) lift(0,39,0)=40 mean()=1:0 lift(0,39,0)=0");
    edge(16, "BAD: a behind b", "bed(0..9,-1) lift(1,0,0)=BAD lift(9,8,0)=BAD lift(MAX,MIN,0)=BAD");
    edge(16, "BAD: SLEEPERS that are none",
        "bed(0..9,-1) lift(-1,3,0)=BAD lift(3,10,0)=BAD lift(10,10,0)=BAD lift(-1,-1,0)=BAD lift(MIN,3,0)=BAD"
            + " lift(0,MAX,0)=BAD");
    edge(16, "BAD: no height of a BED", "lift(0,9,10001|-10001|MIN|MAX)=BAD lift(0,9,-10000)=0 lift(0,9,10000)=10");
    edge(16, "their hundredths are 0: of those that are lifted",
        "line(3) axle(1) table(0,9) pass(1) bed(1,1) lift(0,2,1)=2 told(0|2,2)=0 told(1,2)=27");
    edge(16, "STONES 1 less (1 at least)",
        "stones(0,2) stones(1,1) stones(2,9) lift(0,3,1)=4 told(0,1)=1 told(1,1)=1 told(2,1)=8 told(3,1)=4"
            + " lift(0,3,2)=4 told(0..1,1)=1");
    edge(16, "STONES: of those that are not lifted they stay",
        "lift(0,9,0)=0 told(0..9,1)=5 lift(0,9,-1)=0 told(0..9,1)=5");
    edge(16, "(LOST ones aside.)",
        "line(3) axle(1) table(0,9) pass(1) lose(1,true) lift(0,2,5)=2 told(1,1)=5 told(1,2)=27 lose(1,false)"
            + " bed(1,0)=1:0");
    edge(16, "(LOST ones aside.): all are", "lose(0..9,true) lift(0,9,10000)=0");
  }

  private static void measure() {
    edge(17, "half length k (1 .. 4)", "line(9) bed(4,8) measure(0,1)=0 at(0,4)=1:4 measure(1,4)=0 at(1,4)=1:16");
    edge(17, "BAD: k", "measure(0,0|5|-1|MIN|MAX)=BAD count(3)=0");
    edge(17, "RUNS 0 .. 5, BAD", "measure(-1|6|MIN|MAX,1)=BAD measure(0|5,1)=0 count(3)=2");
    edge(17, "SLEEPERS beyond: none: at both ends of a chord",
        "line(9) bed(0..8,7) bed(0,9) bed(8,3) measure(0,4)=0 at(0,4)=1:2 at(0,3|5)=1:0");
    edge(17, "where one is none: just one has a chord",
        "beds(1,5,3) measure(0,1)=0 at(0,0)=1:0 at(0,1)=1:6 at(0,2)=1:0");
    edge(17, "where one is none: no one has a chord",
        "beds(1,5,3) row(0,7,7,7,7) measure(0,2)=1 at(0,0..3)=1:0 line(8) bed(0..7,9) bed(4,99) measure(0,4)=1"
            + " at(0,0..7)=1:0");
    edge(17, "0 beyond N", "row(0,1,1,1,1,1,1,1,1,1,1,7) lay(0,39,7) bed(0,10) measure(0,1)=1 at(0,10|39)=1:0");
    edge(17, "at all SLEEPERS: the last of 40",
        "line(40) bed(38,6) measure(0,1)=0 at(0,38)=1:8 at(0,39)=1:0 measure(0,4)=1 at(0,35)=1:2 at(0,36)=1:0");
    edge(17, "1 if it was there, else 0",
        "measure(3,1)=0 measure(3,1)=1 tear(3) measure(3,1)=0 level(2) measure(2,1)=1");
    edge(17, "without a line: chords of the nearest BEDS",
        "line(9) bed(0..8,5) bed(0,9) lose(1..8,true) measure(0,1)=0 at(0,0..8)=1:0");
  }

  private static void level() {
    edge(18, "heights of THE RAIL (0 beyond N)",
        "beds(4,-9,6) row(1,7,7,7,7,7) lay(1,39,7) level(1)=1 at(1,0)=1:4 at(1,1)=1:5 at(1,2)=1:6 at(1,3..4|39)=1:0");
    edge(18, "heights of THE RAIL: all 40", "line(40) bed(39,-4) bed(0,3) level(5)=0 at(5,0)=1:3 at(5,39)=1:-4");
    edge(18, "1 if it was there, else 0", "level(0)=0 level(0)=1 tear(0)=1 level(0)=0 measure(1,1)=0 level(1)=1");
    edge(18, "BAD", "level(-1|6|MIN|MAX)=BAD count(3)=0 level(5)=0");
    edge(18, "none is there: 0", "bed(0..9,7) lose(0..9,true) level(0)=0 at(0,0..9)=1:0");
  }

  private static void places() {
    edge(19, "v (-100000 .. 100000)", "level(0) lay(0,0,100000)=1:0 lay(0,0,-100000)=1:100000 lay(0,0,0)=1:-100000");
    edge(19, "BAD: v", "level(0) lay(0,0,100001|-100001|MIN|MAX)=BAD at(0,0)=1:0");
    edge(19, "BAD: r", "level(0) lay(-1|6|MIN|MAX,0,1)=BAD");
    edge(19, "rows of 40 ints",
        "level(5) lay(5,0,4)=1:0 lay(5,39,5)=1:0 at(5,0)=1:4 at(5,39)=1:5 line(3) lay(5,39,6)=1:5");
    edge(19, "NOTHING: ahead of BEYOND", "lay(0,0|39|40|-1,1)=NOTHING");
    edge(19, "BEYOND", "level(0) lay(0,40|-1|MIN|MAX,1)=BEYOND at(0,0|39)=1:0");
    edge(20, "Place i of a RUN: beyond N, too", "line(3) level(0) at(0,0|2|3|39)=1:0");
    edge(20, "BAD", "level(0) at(-1|6|MIN|MAX,0)=BAD");
    edge(20, "NOTHING: ahead of BEYOND", "at(5,0|39|40|-1)=NOTHING");
    edge(20, "BEYOND", "level(0) lay(0,39,3) lay(0,39,4)=1:3 at(0,40|-1|MIN|MAX)=BEYOND asked()=3");
  }

  private static void shape() {
    edge(21, "s0, s1 (-10000 .. 10000)",
        "line(3) level(0) shape(0,-10000,10000)=1 at(0,0)=1:-10000 at(0,1)=1:10000 at(0,2)=1:30000"
            + " shape(0,10000,-10000)=1 at(0,2)=1:-40000");
    edge(21, "BAD: s0, s1", "level(0) shape(0,10001|-10001|MIN|MAX,0)=BAD shape(0,0,10001|-10001|MIN|MAX)=BAD");
    edge(21, "BAD: r", "shape(-1|6|MIN|MAX,0,0)=BAD");
    edge(21, "NOTHING", "shape(0..5,0,0)=NOTHING level(5) shape(5,0,0)=1");
    edge(21, "at places 1 .. N - 2: not 0, not N - 1",
        "line(4) row(0,50,1,2,70,60) shape(0,0,0)=1 at(0,0)=1:0 at(0,1)=1:0 at(0,2)=1:-1 at(0,3)=1:-4");
    edge(21, "at places 1 .. N - 2: 1 alone",
        "line(3) row(0,50,3,70) shape(0,4,5)=1 at(0,0)=1:4 at(0,1)=1:5 at(0,2)=1:3");
    edge(21, "(0 beyond N ..", "line(3) row(0,1,1,1,9) lay(0,39,9) shape(0,5,5)=1 at(0,2)=1:4 at(0,3|39)=1:0");
    edge(21, "none beyond 40", "line(40) level(0) shape(0,1,2)=1 at(0,38)=1:39 at(0,39)=1:40");
    edge(21, "ints that wrap",
        WRAPPING + " at(0,27)=1:-2047500000 at(0,28)=1:1919867296 at(0,30)=1:1148467296 at(0,39)=1:-549065408");
    edge(22, "A RUN is missing: 1", "level(0) level(5) tear(5)=1 count(3)=1 tear(0)=1 count(3)=0 at(0|5,0)=NOTHING");
    edge(22, "BAD", "level(0) tear(-1|6|MIN|MAX)=BAD count(3)=1");
    edge(22, "NOTHING", "tear(0..5)=NOTHING level(3) tear(3)=1 tear(3)=NOTHING");
  }

  // From 39 chords of -100000, C(i, 2) times 100000, and from these C(i + 1, 4) times -100000, in 32 bits.
  private static final String WRAPPING = "line(40) level(0) lay(0,1..38,-100000) shape(0,0,0)=1 shape(0,0,0)=1";

  private static void copy() {
    edge(23, "n places: none", "row(0,1,2) row(1,3,4) copy(0,0,1,0,0)=1 copy(0,40,1,40,0)=1 at(1,0)=1:3 at(1,1)=1:4");
    edge(23, "n places: one", "row(0,1,2) row(1,3,4) copy(0,1,1,39,1)=1 at(1,0)=1:3 at(1,39)=1:2");
    edge(23, "n places: all 40",
        "row(0,1,2) lay(0,39,9) level(1) copy(0,0,1,0,40)=1 at(1,0)=1:1 at(1,1)=1:2 at(1,39)=1:9");
    edge(23, "as if taken ahead: to behind",
        "row(0,1,2,3,4,5) copy(0,0,0,1,4)=1 at(0,0..1)=1:1 at(0,2)=1:2 at(0,3)=1:3 at(0,4)=1:4");
    edge(23, "as if taken ahead: to before",
        "row(0,1,2,3,4,5) copy(0,1,0,0,4)=1 at(0,0)=1:2 at(0,1)=1:3 at(0,2)=1:4 at(0,3..4)=1:5");
    edge(23, "perhaps itself: the same places", "row(0,1,2,3) copy(0,0,0,0,40)=1 at(0,0)=1:1 at(0,2)=1:3");
    edge(23, "BAD", "level(0) copy(-1|6|MIN|MAX,0,0,0,1)=BAD copy(0,0,-1|6|MIN|MAX,0,1)=BAD");
    edge(23, "SIZE: n below 0", "level(0) copy(0,0,0,0,-1|MIN)=SIZE copy(0,0,0,0,0)=1");
    edge(23, "SIZE: ahead of NOTHING, BEYOND", "level(0) copy(1,40,2,40,-1)=SIZE copy(0,41,0,41,-1)=SIZE");
    edge(23, "NOTHING: either", "level(0) copy(0,0,1,0,1)=NOTHING copy(1,0,0,0,1)=NOTHING copy(1,0,2,0,0)=NOTHING");
    edge(23, "NOTHING: ahead of BEYOND", "level(0) copy(0,0,1,1,40)=NOTHING copy(1,41,0,0,0)=NOTHING");
    edge(23, "BEYOND: not so many there",
        "level(0) level(1) copy(0,0,1,0,41)=BEYOND copy(0,1,1,0,40)=BEYOND copy(0,0,1,1,40)=BEYOND"
            + " copy(0,40,1,0,1)=BEYOND copy(0,0,1,40,1)=BEYOND");
    edge(23, "BEYOND: a place that there is not",
        "level(0) copy(0,-1|41|MIN|MAX,0,0,0..1)=BEYOND copy(0,0,0,-1|41|MIN|MAX,0..1)=BEYOND");
    edge(23, "BEYOND: sums that would wrap",
        "level(0) copy(0,MAX,0,0,MAX)=BEYOND copy(0,0,0,MAX,MAX)=BEYOND copy(0,1,0,1,MAX)=BEYOND"
            + " copy(0,MAX,0,MAX,1)=BEYOND");
  }

  private static void fit() {
    edge(24, "STATE: N below 11", "row(0,1,2) line(10) fit(0,0)=STATE line(3) fit(0,0)=STATE line(11) fit(0,0)=100:0");
    edge(24, "(STATE ahead.)", "fit(0,1)=STATE line(11) fit(0,1)=NOTHING");
    edge(24, "BAD", "line(11) level(0) fit(-1|6|MIN|MAX,0)=BAD fit(0,-1|6|MIN|MAX)=BAD");
    edge(24, "NOTHING: either",
        "line(11) level(0) fit(0,1)=NOTHING fit(1,0)=NOTHING fit(1,2)=NOTHING level(1) fit(0,1)=100:0");
    edge(24, "the shift d from -5", "line(11) row(0,9,9,9,9,9,50) row(1,50) fit(0,1)=95:0 lay(1,0,49) fit(0,1)=95:1");
    edge(24, "to 5 of the second one", "line(11) row(0,9,9,9,9,9,50) row(1) lay(1,10,50) fit(0,1)=105:0");
    edge(24, "places 5 .. N - 6: no others",
        "line(12) row(0,9,9,9,9,9,0,0,9,9,9,9,9) row(1) fit(0,1)=100:0 lay(0,5,1) fit(0,1)=100:1 lay(0,5,0)"
            + " lay(0,6,2) fit(0,1)=100:4");
    edge(24, "places 5 .. N - 6: of 40",
        "line(40) row(0) lay(0,34,3) row(1) lay(1,39,3) fit(0,1)=105:0 lay(0,35,7) lay(0,4,7) fit(0,1)=105:0");
    edge(24, "of alike ones the least apart from 0",
        "line(11) row(0) row(1,5,5,5,5,5,5,4,3,4,5,5) fit(0,1)=102:9 lay(1,8,3) fit(0,1)=102:9 lay(1,4,3)"
            + " fit(0,1)=99:9");
    edge(24, "of two such the one below 0",
        "line(11) row(0) row(1,5,5,5,5,3,5,3,5,5,5,5) fit(0,1)=99:9 lay(1,4|6,5) lay(1,0|10,0) fit(0,1)=95:0");
    edge(24, "sums are longs, that wrap",
        WRAPPING + " line(11) level(1) level(2) copy(0,27,1,5,1)=1 copy(0,27,2,5,1)=1"
            + " copy(0,28,2,7,1)=1 fit(1,2)=102:" + WRAPPED_SQUARE);
    edge(25, "the first place", "row(0) worst(0)=0:0 row(1,0,3,0,3) worst(1)=0:3 lay(1,0,3) worst(1)=1:3");
    edge(25, "(0 .. N - 1): the last of them",
        "line(3) row(0,0,1,3,90) worst(0)=1:2 line(4) worst(0)=2:87 line(40) row(1) lay(1,39,-1) worst(1)=38:1"
            + " line(39) worst(1)=0:0");
    edge(25, "without sign", "row(0,0,5,-1) worst(0)=1:6");
    edge(25, "without sign: more than an int holds", WRAPPING + " worst(0)=27:3967367296");
    edge(25, "BAD", "worst(-1|6|MIN|MAX)=BAD");
    edge(25, "NOTHING", "worst(0..5)=NOTHING level(5) worst(5)=0:0");
  }

  private static final long WRAPPED_SQUARE = 3967367296L * 3967367296L;

  private static void stress() {
    edge(26, "n (-500 .. 500)",
        "pull(0,500)=1 pull(1,-500)=1 pull(3,0)=1 cut(0,0)=1:750 cut(1,0)=1:-250 cut(3,0)=1:250");
    edge(26, "BAD: n", "pull(0,501|-501|MIN|MAX)=BAD cut(0,0)=1:250");
    edge(26, "BAD: a stretch that is none", "pull(-1|4|MIN|MAX,1)=BAD cut(0..3,0)=1:250");
    edge(26, "a pull by n adds n to it: beyond all temperatures",
        "pull(0,500)*20 pull(1,-500)*20 press(0,600)=1:-231600 press(1,-400)=1:224400 cut(0,0)=1:10250"
            + " cut(1,0)=1:-9750");
    edge(27, "a temperature (-400 .. 600)", "cut(0,-400)=1:250 cut(0,600)=1:-400 cut(3,1)=1:250 cut(0,0)=1:600");
    edge(27, "BAD: no temperature", "cut(0,-401|601|MIN|MAX)=BAD cut(0,0)=1:250");
    edge(27, "BAD: a stretch that is none", "cut(-1|4|MIN|MAX,1)=BAD");
    edge(28, "at a temperature (-400 .. 600)", "press(0,-400)=1:-15600 press(0,600)=1:8400 press(3,600)=1:8400");
    edge(28, "below 0: a pull", "press(0,250)=1:0 press(0,249)=1:-24 press(0,251)=1:24");
    edge(28, "BAD: no temperature", "press(0,-401|601|MIN|MAX)=BAD");
    edge(28, "BAD: a stretch that is none", "press(-1|4|MIN|MAX,1)=BAD");
    edge(29, "at a temperature (-400 .. 600)", "margin(0..3,-400)=0:26100 margin(0..3,600)=0:2100");
    edge(29, "BAD", "margin(0,-401|601|MIN|MAX)=BAD margin(-1|4|MIN|MAX,0)=BAD");
    edge(29, "1 it BUCKLES: MARGIN is 0 or less",
        "stones(0..9,2) cut(0,200) margin(0,600)=1:0 margin(0,599)=0:24 pull(0,-1) margin(0,600)=1:-24");
    edge(29, "a quarter of N each, cut: none of 3; the last one has the rest: all",
        "line(3) stones(2,9) margin(0..2,250)=NOUGHT margin(3,250)=0:10800");
    edge(29, "a quarter of N each, cut: one of 4",
        "line(4) stones(0,1) stones(1,2) stones(2,3) stones(3,4) margin(0,250)=0:9300 margin(1,250)=0:9600"
            + " margin(2,250)=0:9900 margin(3,250)=0:10200");
    edge(29, "the last one has the rest: 4 of 7",
        "line(7) stones(0,1) stones(1,2) stones(2,3) stones(3,1) stones(6,1) margin(0,250)=0:9300"
            + " margin(1,250)=0:9600 margin(2,250)=0:9900 margin(3,250)=0:9900");
    edge(29, "a quarter of N each, cut: 10 of 40",
        "line(40) stones(9,1) stones(10,9) stones(19,9) stones(30..39,9) margin(0,250)=0:10200 margin(1,250)=0:10500"
            + " margin(2,250)=0:10500 margin(3,250)=0:11700");
    edge(29, "the mean of STONES .. cut",
        "line(5) stones(3,4) margin(3,250)=0:10200 line(8) stones(0,9) stones(1,8) margin(0,250)=0:11400");
    edge(29, "STONES at their bounds", "stones(0..1,1) margin(0,250)=0:9300 stones(0..1,9) margin(0,250)=0:11700");
    edge(29, "LOST ones aside",
        "line(8) stones(0,1) stones(1,9) margin(0,250)=0:10500 lose(0,true) margin(0,250)=0:11700");
    edge(29, "NOUGHT: all its SLEEPERS are LOST",
        "lose(2..3,true) margin(1,250)=NOUGHT margin(0|2|3,250)=0:10500 lose(2,false) margin(1,250)=0:10500");
    edge(29, "the greatest chord (k 1, without sign): one below 0",
        "line(8) bed(0,40) margin(0|1|3,250)=0:10500 margin(2,250)=0:9900");
    edge(29, "the greatest chord .. within: at its first and last SLEEPER",
        "line(40) bed(10,4) bed(29,4) margin(0|3,250)=0:10440 margin(1|2,250)=0:10380");
    edge(29, "the greatest chord .. within: at a LOST SLEEPER, too",
        "line(20) bed(3,100) lose(4..8,true) margin(1,250)=0:4500 lose(5..7,false) margin(1,250)=0:9000");
    edge(29, "the greatest chord: none at the ends of the line",
        "line(3) bed(0,40) bed(1,40) bed(2,40) margin(3,250)=0:10500");
  }

  private static void works() {
    edge(30, "a cost (1 .. 1000) and a gain (0 .. 1000)",
        "work(1,0)=0 work(1000,1000)=1 best(1000)=1000:2 best(1001)=1000:2");
    edge(30, "BAD: a cost", "work(0|-1|1001|MIN|MAX,1)=BAD count(4)=0");
    edge(30, "BAD: a gain", "work(1,-1|1001|MIN|MAX)=BAD count(4)=0");
    edge(30, "FULL: 14 at most",
        "work(1,1)*13 work(1,1)=13 work(1,1)=FULL work(1,1001)=BAD count(4)=14 line(3) work(1,1)=FULL");
    edge(31, "a budget (0 .. 14000)", "work(1,5) best(0)=0:0 best(14000)=5:1 best(-1|14001|MIN|MAX)=BAD");
    edge(31, "all sets that cost no more: just as much, and 1 less",
        "work(3,5) work(4,6) best(7)=11:3 best(6)=6:2 best(4)=6:2 best(3)=5:1 best(2)=0:0");
    edge(31, "that with the greatest gain: of 1, the least there is", "work(1,0) work(1,1) best(1)=1:2 best(0)=0:0");
    edge(31, "all sets: all 14, each at its bounds",
        "work(1000,1000)*14 best(14000)=14000:16383 best(13999)=13000:8191 best(999)=0:0");
    edge(31, "of these the least cost", "work(5,9) work(4,9) work(9,0) best(5)=9:2 best(8)=9:2 best(18)=18:3");
    edge(31, "of these the least cost: none without gain", "work(1,0)*14 best(14000)=0:0");
    edge(31, "then the least bits", "work(2,1) work(1,2) work(3,3) best(3)=3:3 work(1,2) best(1)=2:2 best(2)=4:10");
    edge(32, "a budget", "work(1,5) first(0)=0:0 first(14000)=5:1 first(-1|14001|MIN|MAX)=BAD");
    edge(32, "each that still fits is taken: just so, and 1 less",
        "work(3,9) work(2,4) first(5)=13:3 first(4)=9:1 first(2)=4:2 first(1)=0:0");
    edge(32, "each that still fits is taken: behind one that doesn't",
        "work(5,50) work(9,45) work(4,1) first(9)=51:5 first(13)=51:5 first(14)=95:3");
    edge(32, "each that still fits is taken: without gain, too", "work(1,0)*14 first(14000)=0:16383 first(3)=0:7");
    edge(32, "by gain by cost",
        "work(1000,999) work(999,998) work(1000,1000) first(1000)=1000:4 first(1999)=1998:6 first(2000)=1999:5");
    edge(32, "of like ones the least",
        "work(4,6) work(2,3) work(6,9) first(4)=6:1 first(2)=3:2 first(6)=9:3 first(10)=9:3 first(12)=18:7");
    edge(32, "all 14", "work(1000,1000)*14 first(14000)=14000:16383 first(13999)=13000:8191");
  }

  private static void whatIsTold() {
    edge(33, "0 before", "asked()=0 line(5) gap(0) level(0) count(0) asked()=0");
    edge(33, "that was not refused",
        "bed(0,7) bed(0,9)=1:7 bed(0,10001)=BAD rail(10)=BAD at(0,0)=NOTHING worst(0)=NOTHING fit(0,0)=STATE"
            + " press(4,0)=BAD cut(4,0)=BAD margin(4,0)=BAD best(-1)=BAD first(-1)=BAD asked()=7");
    edge(34, "0 N .. 4 WORKS: none", "line(3) count(0)=3 count(1..4)=0");
    edge(34, "0 N .. 4 WORKS: all",
        "line(40) lose(0..39,true) axle(1)*20 level(0..5) work(1,1)*14 count(0)=40 count(1)=40 count(2)=20 count(3)=6"
            + " count(4)=14");
    edge(34, "BAD", "count(-1|5|MIN|MAX)=BAD");
    edge(35, "0 before any", "line(2)=BAD pass(1)=STATE finding()=0");
    edge(35, "The latest FINDING: BAD, FULL, STATE are none",
        "at(0,0)=NOTHING line(41)=BAD pass(1)=STATE axle(1)*20 axle(1)=FULL finding()=1 mark(0,1)=UNLIKE finding()=3");
    edge(36, "a FINDING (1 .. 5): none yet", "line(2)=BAD findings(1..5)=0");
    edge(36, "BAD", "at(0,0)=NOTHING findings(0|6|-1|MIN|MAX)=BAD findings(1)=1");
    edge(36, "How often: line() leaves them", "at(0,0)=NOTHING at(0,0)=NOTHING line(3) findings(1)=2 finding()=1");
  }

  private static long digestOf(int n, int[] counts, int[][] sleepers, int[] frees, int[][] runs) {
    long h = 31 * 17 + n;
    for (int c : counts) {
      h = 31 * h + c;
    }
    for (int[] s : sleepers) {
      for (int v : s) {
        h = 31 * h + v;
      }
    }
    for (int f : frees) {
      h = 31 * h + f;
    }
    for (int[] run : runs) {
      for (int v : run) {
        h = 31 * h + v;
      }
    }
    return h;
  }

  private static void digest() {
    int[][] plain = new int[40][];
    for (int i = 0; i < 40; i++) {
      plain[i] = new int[] {0, 5, 0, 0, 0};
    }
    int[] missing = {-1};
    int[] free = {250, 250, 250, 250};
    int[][] none = {missing, missing, missing, missing, missing, missing};
    long few = digestOf(3, new int[4], Arrays.copyOf(plain, 3), free, none);
    edge(37, "of each SLEEPER: of 3", "line(3) digest()=" + few);
    edge(37, "of each SLEEPER: of 40", "line(40) digest()=" + digestOf(40, new int[4], plain, free, none));
    edge(37, "of each SLEEPER: none of those that are gone", "line(40) bed(3..39,9) line(3) digest()=" + few);
    int[][] lost = {{3, 9, 0, 1, -10000}, {2, 5, 0, 0, 10000}, {1, 1, 0, 0, 0}};
    edge(37, "told() 0 to 3 and its BED: of a LOST one, too",
        "line(3) sleeper(0,3) stones(0,9) bed(0,-10000) lose(0,true) sleeper(1,2) bed(1,10000)"
            + " sleeper(2,1) stones(2,1) axle(1)*20 work(1,1)*14 digest()="
            + digestOf(3, new int[] {1, 20, 0, 14}, lost, free, none));
    edge(37, "the temperature at which it is free",
        "line(3) pull(0,500) pull(0,500) cut(1,-400) pull(3,-500) digest()="
            + digestOf(3, new int[4], Arrays.copyOf(plain, 3), new int[] {1250, -400, 250, -250}, none));
    int[] row = new int[40];
    row[0] = -1;
    row[3] = 100000;
    row[39] = -100000;
    int[][] some = {missing, new int[40], missing, missing, missing, row};
    edge(37, "of each RUN its 40 places (-1 once: missing)",
        "line(3) level(1) row(5,-1,0,0,100000) lay(5,39,-100000) level(2) tear(2) digest()="
            + digestOf(3, new int[] {0, 0, 2, 0}, Arrays.copyOf(plain, 3), free, some));
  }

  // An object is used for at most 512 calls: the answers beyond are free, but no call may throw.
  private static void farBeyondAllCalls() {
    BallastLine x = new BallastLine();
    int[] values = {Integer.MIN_VALUE, Integer.MIN_VALUE + 1, -100001, -10001, -501, -1, 0, 1, 2, 3, 4, 5, 6, 9, 10,
        39, 40, 41, 250, 251, 500, 600, 10000, 14000, 100000, Integer.MAX_VALUE - 1, Integer.MAX_VALUE};
    Method[] methods = METHODS.values().toArray(new Method[0]);
    Arrays.sort(methods, (a, b) -> a.getName().compareTo(b.getName()));
    long state = 5;
    for (int step = 0; step < 60000; step++) {
      Method m = methods[step % methods.length];
      Object[] args = new Object[m.getParameterCount()];
      for (int k = 0; k < args.length; k++) {
        state = state * 6364136223846793005L + 1442695040888963407L;
        int drawn = (int) (state >>> 33);
        boolean small = drawn % 3 != 0;
        Object number = small ? (Object) (drawn / 3 % 41) : (Object) values[drawn / 3 % values.length];
        args[k] = m.getParameterTypes()[k] == boolean.class ? (Object) (drawn % 2 == 0) : number;
      }
      call(x, m.getName(), args);
    }
  }

  public static void main(String[] args) throws IOException {
    for (Method m : BallastLine.class.getDeclaredMethods()) {
      if (Modifier.isPublic(m.getModifiers())) {
        METHODS.put(m.getName(), m);
      }
    }
    refusals();
    readme();
    newObject();
    line();
    sleeper();
    lose();
    bed();
    stones();
    told();
    mark();
    rail();
    gap();
    train();
    pass();
    sinking();
    mean();
    lift();
    measure();
    level();
    places();
    shape();
    copy();
    fit();
    stress();
    works();
    whatIsTold();
    digest();
    farBeyondAllCalls();
    int all = 0;
    for (int p = 0; p <= PROMISES; p++) {
      due("edges of promise " + p + ": there are some", edgesOf[p] > 0 ? 1 : 0, 1);
      all += edgesOf[p];
    }
    System.out.println(wrong == 0 ? "all " + all + " edges hold" : wrong + " answers are not as due");
    if (wrong != 0) {
      System.exit(1);
    }
  }
}
