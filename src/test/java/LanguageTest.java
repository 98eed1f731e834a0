import java.lang.reflect.Constructor;
import java.lang.reflect.Field;
import java.lang.reflect.Method;
import java.lang.reflect.Modifier;
import java.nio.file.Files;
import java.nio.file.Path;
import java.util.Set;
import java.util.TreeSet;

/** The face of the document, and the rules of LANGUAGE.md that can be read off the class and its source. */
public final class LanguageTest {
  private static final Kit KIT = new Kit("LanguageTest");
  private static final String FACE = "back():int bears():int ahead(int):int chance(int,int,int):int count(int):int"
      + " cross(int,int):int crossing(int,int):int drop(int):int fault(int):int feed(int,int,int,int,int):int"
      + " forgive(int):boolean keep():int known(int):boolean law(int,int):long life(int):int loan(int):int named(int):int"
      + " order(int,int,int):int painted():int partner(int,int):int pay(int):boolean person(int,int):int rest(int,int):int"
      + " rests(int):int sag(int):int see(int,int,int,boolean):int strand(int,int):int strike(int,int):int strikes(int):int"
      + " tells(int):int text(int):int tie(int,int,int,int):int tried(int,int,int):int twist(int,int):boolean"
      + " twists(int):int undo():int years(int):int";
  private static final String[] FORBIDDEN = {"->", "::", "Exact(", "finally", "synchronized", "assert ", "var ", "catch (",
      "System.out", "float ", "double ", "hashCode", ".equals(", "String.valueOf", "HashMap", "extends ", "package "};

  public static void main(String[] args) throws Exception {
    face();
    namesInside();
    source();
    KIT.end();
  }

  private static void face() throws Exception {
    Set<String> wanted = new TreeSet<>(java.util.Arrays.asList(FACE.split(" ")));
    Set<String> found = new TreeSet<>();
    for (Method method : RopeLedger.class.getDeclaredMethods()) {
      if (!Modifier.isPrivate(method.getModifiers())) {
        found.add(told(method));
      }
    }
    KIT.due("the face " + found, found.equals(wanted), true);
    KIT.due("final", Modifier.isFinal(RopeLedger.class.getModifiers()), true);
    Constructor<?>[] made = RopeLedger.class.getDeclaredConstructors();
    KIT.due("constructors", made.length, 1);
    KIT.due("public constructor without parameters", Modifier.isPublic(made[0].getModifiers()) && made[0].getParameterCount() == 0, true);
    for (Field field : RopeLedger.class.getDeclaredFields()) {
      KIT.due("field " + field.getName(), Modifier.isPrivate(field.getModifiers()) != field.getName().equals("NONE"), true);
    }
    KIT.due("NONE", RopeLedger.NONE, -1);
    Class<?>[] thrown = RopeLedger.class.getMethod("person", int.class, int.class).getExceptionTypes();
    KIT.due("person tells what it throws", thrown.length, 2);
  }

  private static String told(Method method) {
    StringBuilder text = new StringBuilder(method.getName()).append('(');
    for (Class<?> type : method.getParameterTypes()) {
      text.append(text.charAt(text.length() - 1) == '(' ? "" : ",").append(type.getName());
    }
    return text.append("):").append(method.getReturnType().getName()).toString();
  }

  private static void namesInside() {
    Set<String> open = new TreeSet<>();
    for (Method method : RopeLedger.class.getMethods()) {
      open.add(method.getName());
    }
    KIT.due("classes inside", RopeLedger.class.getDeclaredClasses().length <= 12, true);
    fields(RopeLedger.class);
    for (Class<?> inside : RopeLedger.class.getDeclaredClasses()) {
      KIT.due(inside.getName() + " is static", Modifier.isStatic(inside.getModifiers()), true);
      fields(inside);
      for (Method method : inside.getDeclaredMethods()) {
        KIT.due("parameters of " + method, method.getParameterCount() <= 7, true);
        KIT.due("the name of " + method + " isn't of the face", open.contains(method.getName()), false);
      }
    }
    for (Method method : RopeLedger.class.getDeclaredMethods()) {
      boolean hidden = Modifier.isPrivate(method.getModifiers());
      KIT.due("the name of " + method + " isn't of the face", hidden && open.contains(method.getName()), false);
    }
  }

  private static void fields(Class<?> type) {
    int fields = 0;
    for (Field field : type.getDeclaredFields()) {
      boolean constant = Modifier.isStatic(field.getModifiers());
      KIT.due("static " + field.getName() + " is final", !constant || Modifier.isFinal(field.getModifiers()), true);
      fields += constant ? 0 : 1;
    }
    KIT.due("fields of " + type.getName(), fields <= 20, true);
  }

  private static void source() throws Exception {
    String source = Files.readString(Path.of(System.getProperty("rope.root", "."), "src/main/java/RopeLedger.java"));
    for (String piece : FORBIDDEN) {
      KIT.due("the source has " + piece, source.contains(piece), false);
    }
    for (String line : source.split("\n")) {
      KIT.due("import " + line, line.startsWith("import ") && !line.equals("import java.util.NoSuchElementException;"), false);
      KIT.due("signs of " + line, line.chars().allMatch(sign -> sign >= 32 && sign < 127), true);
    }
  }
}
