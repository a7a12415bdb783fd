import java.lang.reflect.Constructor;
import java.lang.reflect.Field;
import java.lang.reflect.Method;
import java.lang.reflect.Modifier;
import java.util.Arrays;
import java.util.TreeSet;

/** The class has the document's face, and nothing else that can be seen from outside. */
public final class FaceTest {
  private static final String[] FACE = {
    "int category(int,int,boolean)", "int group(boolean)", "int endSign(int)", "int meaning(int,boolean)", "int file()",
    "int line(int)", "int add(int,long,int)", "int open(int)", "int close()", "int next()", "int raw()",
    "int token(int,int) throws java.lang.ArrayIndexOutOfBoundsException", "int name(int,int)", "int told(int,int)",
    "int categoryOf(int)", "int state()", "int count(int)", "int check()"};

  public static void main(String[] args) {
    Due due = new Due();
    Class<?> c = SignCategories.class;
    due.is("modifiers", c.getModifiers(), Modifier.PUBLIC | Modifier.FINAL);
    TreeSet<String> face = new TreeSet<>();
    TreeSet<String> hidden = new TreeSet<>();
    TreeSet<String> faceNames = new TreeSet<>();
    for (Method m : c.getDeclaredMethods()) {
      if (Modifier.isPrivate(m.getModifiers())) {
        hidden.add(m.getName());
      } else {
        due.is("modifiers of " + m.getName(), m.getModifiers(), Modifier.PUBLIC);
        face.add(m.toString().replace("public ", "").replace("SignCategories.", ""));
        faceNames.add(m.getName());
      }
    }
    due.holds("the face " + face, face.equals(new TreeSet<>(Arrays.asList(FACE))));
    hidden.retainAll(faceNames);
    due.holds("private methods with a public one's name " + hidden, hidden.isEmpty());
    for (Field f : c.getDeclaredFields()) {
      due.holds("field " + f.getName() + " is private", Modifier.isPrivate(f.getModifiers()));
      due.holds("static field " + f.getName() + " is final", !Modifier.isStatic(f.getModifiers()) || Modifier.isFinal(f.getModifiers()));
    }
    Constructor<?>[] made = c.getDeclaredConstructors();
    due.is("constructors", made.length, 1);
    due.is("its modifiers", made[0].getModifiers(), Modifier.PUBLIC);
    due.is("its parameters", made[0].getParameterCount(), 0);
    due.end("FaceTest");
  }
}
