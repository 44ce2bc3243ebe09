import java.lang.reflect.Field;
import java.lang.reflect.Member;
import java.lang.reflect.Method;
import java.lang.reflect.Modifier;
import java.util.ArrayList;
import java.util.Arrays;
import java.util.HashSet;
import java.util.List;
import java.util.Set;

// The class's face is the document's, and what its language asks of its members holds.
public final class FaceTest {
  private static final String[] FACE = {
    "int line(int)", "int sleeper(int,int)", "int lose(int,boolean)", "int bed(int,int)", "int stones(int,int)",
    "int told(int,int)", "int mark(int,int)", "int rail(int)", "int gap(int)", "int axle(int)", "int uncouple()",
    "int table(int,int)", "int pass(int)", "int mean()", "int lift(int,int,int)", "int measure(int,int)",
    "int level(int)", "int lay(int,int,int)", "int at(int,int)", "int shape(int,int,int)", "int tear(int)",
    "int copy(int,int,int,int,int)", "int fit(int,int)", "int worst(int)", "int pull(int,int)", "int cut(int,int)",
    "int press(int,int)", "int margin(int,int)", "int work(int,int)", "int best(int)", "int first(int)",
    "long asked()", "int count(int)", "int finding()", "int findings(int)", "long digest()",
  };
  private static final String[] CONSTANTS = {"BAD", "FULL", "FINDING", "STATE", "NONE"};
  private static int wrong = 0;

  private static void holds(String what, boolean is) {
    if (!is) {
      wrong++;
      System.out.println("does not hold: " + what);
    }
  }

  private static String signature(Method m) {
    StringBuilder text = new StringBuilder(m.getReturnType().getName()).append(' ').append(m.getName()).append('(');
    for (Class<?> type : m.getParameterTypes()) {
      if (text.charAt(text.length() - 1) != '(') {
        text.append(',');
      }
      text.append(type.getName());
    }
    return text.append(')').toString();
  }

  private static List<Class<?>> classes() {
    List<Class<?>> all = new ArrayList<>();
    all.add(BallastLine.class);
    all.addAll(Arrays.asList(BallastLine.class.getDeclaredClasses()));
    return all;
  }

  private static void face() throws Exception {
    int is = BallastLine.class.getModifiers();
    holds("public and final", Modifier.isPublic(is) && Modifier.isFinal(is));
    holds("one constructor", BallastLine.class.getDeclaredConstructors().length == 1);
    holds("a public constructor", Modifier.isPublic(BallastLine.class.getConstructor().getModifiers()));
    Set<String> face = new HashSet<>();
    for (Method m : BallastLine.class.getDeclaredMethods()) {
      if (Modifier.isPublic(m.getModifiers())) {
        face.add(signature(m));
        holds("not static: " + m, !Modifier.isStatic(m.getModifiers()));
      }
    }
    holds("the document's methods, no other: " + face, face.equals(new HashSet<>(Arrays.asList(FACE))));
    Set<String> constants = new HashSet<>();
    for (Field f : BallastLine.class.getDeclaredFields()) {
      if (Modifier.isPublic(f.getModifiers())) {
        constants.add(f.getName());
      }
    }
    holds("the document's constants, no other", constants.equals(new HashSet<>(Arrays.asList(CONSTANTS))));
  }

  private static void members() {
    Set<String> names = new HashSet<>();
    for (String call : FACE) {
      names.add(call.substring(call.indexOf(' ') + 1, call.indexOf('(')));
    }
    holds("some twelve classes", classes().size() <= 12);
    for (Class<?> c : classes()) {
      if (c != BallastLine.class) {
        holds("static: " + c, Modifier.isStatic(c.getModifiers()) && !Modifier.isPublic(c.getModifiers()));
      }
      int fields = 0;
      for (Field f : c.getDeclaredFields()) {
        if (Modifier.isStatic(f.getModifiers())) {
          holds("final: " + f, Modifier.isFinal(f.getModifiers()));
          holds("a constant of int: " + f, f.getType() == int.class);
        } else {
          fields++;
        }
        visible(c, f);
      }
      holds("some twenty fields: " + c, fields <= 20);
      for (Method m : c.getDeclaredMethods()) {
        holds("seven parameters: " + m, m.getParameterCount() <= 7);
        visible(c, m);
        if (!Modifier.isPublic(m.getModifiers())) {
          holds("no name of the face: " + m, !names.contains(m.getName()));
        }
      }
    }
  }

  private static void visible(Class<?> c, Member m) {
    boolean open = Modifier.isPublic(m.getModifiers()) && c == BallastLine.class;
    holds("public in the face, or private: " + m, open || Modifier.isPrivate(m.getModifiers()) || m.isSynthetic());
  }

  public static void main(String[] args) throws Exception {
    face();
    members();
    System.out.println(wrong == 0 ? "the face is the document's" : wrong + " things do not hold");
    if (wrong != 0) {
      System.exit(1);
    }
  }
}
