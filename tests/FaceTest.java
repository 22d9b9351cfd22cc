import java.lang.reflect.Constructor;
import java.lang.reflect.Field;
import java.lang.reflect.Method;
import java.lang.reflect.Modifier;
import java.util.ArrayList;
import java.util.List;
import java.util.Set;
import java.util.TreeSet;

/** The class has the document's face, and no other member that can be seen. */
public final class FaceTest {
  private static final String FACE =
      "int feed(int,int,int,int,int) IllegalStateException; int trim(int) IllegalArgumentException; int assemble();"
      + "int errorAt(); int names(); int valueOf(int) IndexOutOfBoundsException; int nameNear(int) IllegalArgumentException;"
      + "int lineOf(int) IllegalArgumentException; int reset(); int key(int) IllegalArgumentException IllegalStateException;"
      + "int signal(); boolean nmi(); int poke(int,int) IllegalArgumentException;"
      + "int setRegister(int,int) IndexOutOfBoundsException IllegalArgumentException; int step();"
      + "int run(int) IllegalArgumentException; int stepOver(); int stepOut(); int back(int) IllegalArgumentException;"
      + "int stopped(); int history(); int setBreak(int,int) IllegalArgumentException IllegalStateException;"
      + "int clearBreak(int); int setWatch(int,int,boolean,boolean) IllegalArgumentException IllegalStateException;"
      + "int clearWatches(); int a(); int x(); int s(); int flags(); int pc(); int state(); int cycles(); int instructions();"
      + "int byteAt(int) IllegalArgumentException; int byteIn(int,int) IndexOutOfBoundsException IllegalArgumentException;"
      + "int bank(); int mask(); int pending(); int count(); int inputs(); int outputs();"
      + "int outputAt(int) IndexOutOfBoundsException; int calls(); int callAt(int) IndexOutOfBoundsException;"
      + "int timesAt(int) IllegalArgumentException; int hottest(); int codeAt(int) IllegalArgumentException;"
      + "int lengthAt(int) IllegalArgumentException; int operandAt(int) IllegalArgumentException;"
      + "int cyclesToHalt(int) IllegalArgumentException; int cyclesToReach(int,int) IllegalArgumentException;"
      + "int outputsIn(int) IllegalArgumentException; int writesIn(int,int) IllegalArgumentException;"
      + "boolean isCode(int) IllegalArgumentException; int codes(); double meanCycles(); long digest()";

  public static void main(String[] args) {
    Class<?> board = FerriteBoard.class;
    Check.is("modifiers of the class", board.getModifiers(), Modifier.PUBLIC | Modifier.FINAL);
    Set<String> due = new TreeSet<>();
    for (String one : FACE.split(";")) due.add(one.trim());
    Set<String> names = new TreeSet<>();
    Set<String> got = new TreeSet<>();
    List<Method> others = new ArrayList<>();
    for (Method method : board.getDeclaredMethods()) {
      if (!Modifier.isPublic(method.getModifiers())) {
        others.add(method);
        continue;
      }
      got.add(told(method));
      names.add(method.getName());
      Check.is("modifiers of " + method.getName(), method.getModifiers(), Modifier.PUBLIC);
    }
    Check.is("the face", got.toString(), due.toString());
    Check.is("constructors", board.getDeclaredConstructors().length, 1);
    for (Constructor<?> made : board.getDeclaredConstructors()) {
      Check.is("the constructor", made.getModifiers() + " " + made.getParameterCount(), Modifier.PUBLIC + " 0");
    }
    hidden(board, others, names);
    Check.finish();
  }

  private static void hidden(Class<?> board, List<Method> others, Set<String> names) {
    for (Field field : board.getDeclaredFields()) {
      Check.is(field.getName() + " is private", Modifier.isPrivate(field.getModifiers()), true);
    }
    int classes = 1;
    for (Class<?> inside : board.getDeclaredClasses()) {
      classes++;
      boolean seen = (inside.getModifiers() & (Modifier.PUBLIC | Modifier.PROTECTED)) != 0;
      Check.is(inside.getName() + " is hidden and static", !seen && Modifier.isStatic(inside.getModifiers()), true);
      others.addAll(List.of(inside.getDeclaredMethods()));
      int own = 0;
      for (Field field : inside.getDeclaredFields()) {
        boolean shared = Modifier.isStatic(field.getModifiers());
        if (shared) Check.is(field.getName() + " is final", Modifier.isFinal(field.getModifiers()), true);
        else own++;
      }
      Check.is(inside.getName() + " has up to 20 fields: " + own, own <= 20, true);
    }
    Check.is("up to 12 classes: " + classes, classes <= 12, true);
    for (Method method : others) {
      if (method.isSynthetic()) continue;
      Check.is("the name of " + method + " is of the face", names.contains(method.getName()), false);
      Check.is(method + " takes up to 7", method.getParameterCount() <= 7, true);
      boolean hidden = method.getDeclaringClass() != FerriteBoard.class || Modifier.isPrivate(method.getModifiers());
      Check.is(method + " is hidden", hidden, true);
    }
  }

  private static String told(Method method) {
    StringBuilder told = new StringBuilder(method.getReturnType().getName() + " " + method.getName() + "(");
    for (int i = 0; i < method.getParameterCount(); i++) {
      if (i > 0) told.append(',');
      told.append(method.getParameterTypes()[i].getName());
    }
    told.append(')');
    for (Class<?> thrown : method.getExceptionTypes()) told.append(' ').append(thrown.getSimpleName());
    return told.toString();
  }
}
