import java.lang.reflect.Constructor;
import java.lang.reflect.Field;
import java.lang.reflect.Method;
import java.lang.reflect.Modifier;
import java.util.Arrays;
import java.util.TreeSet;

/** The public face is the document's, and there is no other member that can be seen from outside. */
public final class FaceTest {
  private static final String[] METHODS = {
    "int setGround(int) IllegalArgumentException",
    "boolean add(int,int) IndexOutOfBoundsException IllegalArgumentException",
    "boolean remove(int,int) IndexOutOfBoundsException IllegalArgumentException",
    "boolean has(int,int) IndexOutOfBoundsException IllegalArgumentException",
    "int size(int,int) IndexOutOfBoundsException IllegalArgumentException",
    "int get(int,int) IndexOutOfBoundsException IllegalArgumentException",
    "int degree(int,int) IndexOutOfBoundsException IllegalArgumentException",
    "int combine(int,int,int,int) IndexOutOfBoundsException IllegalArgumentException",
    "int derive(int,int,int) IndexOutOfBoundsException IllegalArgumentException",
    "int compress(int,int,int) IndexOutOfBoundsException IllegalArgumentException",
    "int shift(int) IndexOutOfBoundsException",
    "int trace(int,int,int) IndexOutOfBoundsException IllegalArgumentException",
    "int segment(int,int,int) IndexOutOfBoundsException IllegalArgumentException",
    "int rank(int) IllegalArgumentException",
    "int unrank(int,int) IllegalArgumentException",
    "int cascade(int,int,int) IllegalArgumentException",
    "int shadowBound(int,int) IllegalArgumentException",
    "int excess(int,int) IndexOutOfBoundsException IllegalArgumentException",
    "boolean is(int,int) IndexOutOfBoundsException IllegalArgumentException",
    "long weight(int,boolean) IndexOutOfBoundsException",
    "int dimension(int) IndexOutOfBoundsException",
    "int shattered(int) IndexOutOfBoundsException",
    "int crossing(int,int) IndexOutOfBoundsException",
    "int sunflower(int) IndexOutOfBoundsException",
    "int pairs(int,int) IndexOutOfBoundsException IllegalArgumentException",
    "int type(int) IllegalArgumentException IllegalStateException",
    "int clearText()",
    "int read(int) IndexOutOfBoundsException",
    "int undo() IllegalStateException",
    "long digest()",
  };
  private static final String[] CONSTANTS = {
    "NONE=-1", "UNION=0", "INTERSECTION=1", "DIFFERENCE=2", "SYMMETRIC=3", "SHADOW=0", "UPPER_SHADOW=1",
    "DOWN_SET=2", "UP_SET=3", "MINIMAL=4", "MAXIMAL=5", "COMPLEMENTS=6", "BLOCKER=7", "UNIONS=8", "INTERSECTIONS=9",
  };

  public static void main(String[] args) throws IllegalAccessException {
    Check.about("the face");
    Check.yes("the class is public", Modifier.isPublic(SetFamilies.class.getModifiers()));
    Check.yes("the class is final", Modifier.isFinal(SetFamilies.class.getModifiers()));
    Check.same("the methods", new TreeSet<>(Arrays.asList(METHODS)).toString(), methods().toString());
    Check.same("the constants", new TreeSet<>(Arrays.asList(CONSTANTS)).toString(), constants().toString());
    constructors();
    nestedClasses();
    Check.end();
  }

  private static TreeSet<String> methods() {
    TreeSet<String> names = new TreeSet<>();
    TreeSet<String> hidden = new TreeSet<>();
    TreeSet<String> seen = new TreeSet<>();
    for (Method method : SetFamilies.class.getDeclaredMethods()) {
      if (Modifier.isPrivate(method.getModifiers())) {
        hidden.add(method.getName());
        continue;
      }
      names.add(method.getName());
      StringBuilder line = new StringBuilder(method.getReturnType() + " " + method.getName() + "(");
      for (Class<?> kind : method.getParameterTypes()) {
        line.append(line.charAt(line.length() - 1) == '(' ? "" : ",").append(kind);
      }
      line.append(")");
      for (Class<?> kind : method.getExceptionTypes()) {
        line.append(" ").append(kind.getSimpleName());
      }
      seen.add(line.toString());
      Check.yes(method.getName() + " is public", Modifier.isPublic(method.getModifiers()));
      Check.no(method.getName() + " is static", Modifier.isStatic(method.getModifiers()));
    }
    hidden.retainAll(names);
    Check.same("private methods with the name of a public one", "[]", hidden.toString());
    return seen;
  }

  private static TreeSet<String> constants() throws IllegalAccessException {
    TreeSet<String> seen = new TreeSet<>();
    for (Field field : SetFamilies.class.getDeclaredFields()) {
      int modifiers = field.getModifiers();
      Check.yes(field.getName() + " is final if it is static", Modifier.isFinal(modifiers) || !Modifier.isStatic(modifiers));
      if (!Modifier.isPrivate(modifiers)) {
        Check.yes(field.getName() + " is public", Modifier.isPublic(modifiers));
        Check.yes(field.getName() + " is static", Modifier.isStatic(modifiers));
        Check.yes(field.getName() + " is an int", field.getType() == int.class);
        seen.add(field.getName() + "=" + field.getInt(null));
      }
    }
    return seen;
  }

  private static void constructors() {
    Constructor<?>[] all = SetFamilies.class.getDeclaredConstructors();
    Check.due("number of constructors", 1, all.length);
    Check.yes("the constructor is public", Modifier.isPublic(all[0].getModifiers()));
    Check.due("its parameters", 0, all[0].getParameterCount());
  }

  private static void nestedClasses() {
    Class<?>[] nested = SetFamilies.class.getDeclaredClasses();
    Check.yes("at most twelve classes", nested.length + 1 <= 12);
    for (Class<?> kind : nested) {
      Check.yes(kind.getSimpleName() + " is static", Modifier.isStatic(kind.getModifiers()));
      Check.no(kind.getSimpleName() + " is public", Modifier.isPublic(kind.getModifiers()));
      Check.no(kind.getSimpleName() + " is protected", Modifier.isProtected(kind.getModifiers()));
    }
  }
}
