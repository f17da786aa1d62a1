import java.lang.reflect.Constructor;
import java.lang.reflect.Field;
import java.lang.reflect.Method;
import java.lang.reflect.Modifier;
import java.util.Set;
import java.util.TreeSet;

/** The public face, and rule 1 of LANGUAGE.md. */
public final class FaceTest {
  private static final Check CHECK = new Check("FaceTest");
  private static final Set<String> FACE = Set.of(
      "int bar(int,int,int)", "int cut(int,int)", "int melt(int,int)", "int weight(int)", "int from(int,int)",
      "long part(int,int)", "int feed(int,int,int,int,int)", "int end(int)", "int colours()", "int fault()",
      "int colour(int)", "int skin(int)", "int dry(int,int)", "int age(int)",
      "int pack(int,int,int,int,int,int)", "int beat(int,int)", "int leaf(int,int)", "int flatter(int,int)",
      "int bind(int)", "int book(int)", "long surface(int,int,int,int)", "int pass(int,int,int,int)",
      "int held(int,int,int)", "int find(int,int,int)", "int missing(int,int)", "int count(int)", "int status()");

  public static void main(String[] args) {
    methods();
    fieldsAndConstructors();
    CHECK.finish();
  }

  private static String signature(Method method) {
    StringBuilder text = new StringBuilder(method.getReturnType() + " " + method.getName() + "(");
    for (Class<?> type : method.getParameterTypes()) {
      text.append(text.charAt(text.length() - 1) == '(' ? "" : ",").append(type);
    }
    return text.append(")").toString();
  }

  private static void methods() {
    Set<String> open = new TreeSet<>();
    Set<String> names = new TreeSet<>();
    for (Method method : GoldLeaves.class.getDeclaredMethods()) {
      if (!Modifier.isPrivate(method.getModifiers())) {
        open.add(signature(method));
        names.add(method.getName());
        CHECK.holds(method + " is public and not static", method.getModifiers() == Modifier.PUBLIC);
      }
    }
    CHECK.holds("the methods are the document's: " + open, open.equals(FACE));
    for (Class<?> inside : GoldLeaves.class.getDeclaredClasses()) {
      int flags = inside.getModifiers();
      CHECK.holds(inside + " is static and not open", Modifier.isStatic(flags)
          && !Modifier.isPublic(flags) && !Modifier.isProtected(flags));
      for (Method method : inside.getDeclaredMethods()) {
        CHECK.holds(method + " bears no public name", !names.contains(method.getName()));
      }
    }
    for (Method method : GoldLeaves.class.getDeclaredMethods()) {
      CHECK.holds(method + " bears no public name", !Modifier.isPrivate(method.getModifiers())
          || !names.contains(method.getName()));
    }
  }

  private static void fieldsAndConstructors() {
    CHECK.holds("the class is public and final",
        GoldLeaves.class.getModifiers() == (Modifier.PUBLIC | Modifier.FINAL));
    CHECK.due("NONE", GoldLeaves.NONE, -1);
    for (Field field : GoldLeaves.class.getDeclaredFields()) {
      CHECK.holds(field + " is private or NONE",
          Modifier.isPrivate(field.getModifiers()) || field.getName().equals("NONE"));
      CHECK.holds(field + " is final if static",
          !Modifier.isStatic(field.getModifiers()) || Modifier.isFinal(field.getModifiers()));
    }
    Constructor<?>[] made = GoldLeaves.class.getDeclaredConstructors();
    CHECK.due("constructors", made.length, 1);
    CHECK.holds("it is public and takes nothing",
        made[0].getModifiers() == Modifier.PUBLIC && made[0].getParameterCount() == 0);
  }
}
