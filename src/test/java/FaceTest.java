import java.lang.reflect.Constructor;
import java.lang.reflect.Field;
import java.lang.reflect.Method;
import java.lang.reflect.Modifier;
import java.util.TreeSet;

/** The public face is the document's, and nothing but private members stands beside it. */
public final class FaceTest {
  private static final String[] FACE = {
    "public Migrator()",
    "public boolean Migrator.begin(int,int)",
    "public boolean Migrator.dirty(int)",
    "public boolean Migrator.poke(int,int)",
    "public boolean Migrator.waits(int)",
    "public int Migrator.copy()",
    "public int Migrator.destination(int)",
    "public int Migrator.pc()",
    "public int Migrator.phase()",
    "public int Migrator.register(int)",
    "public int Migrator.round()",
    "public int Migrator.run(int)",
    "public int Migrator.shown(int)",
    "public int Migrator.shows()",
    "public int Migrator.source(int)",
  };

  public static void main(String[] args) {
    Due due = new Due();
    due.at("face");
    due.is("the class is final", Modifier.isFinal(Migrator.class.getModifiers()), true);
    due.is("the class is public", Modifier.isPublic(Migrator.class.getModifiers()), true);
    due.same("the face", visibleMembers(), String.join("\n", FACE));
    due.end();
  }

  private static String visibleMembers() {
    TreeSet<String> members = new TreeSet<>();
    for (Constructor<?> c : Migrator.class.getDeclaredConstructors()) {
      addVisible(members, c.getModifiers(), c.toString());
    }
    for (Method m : Migrator.class.getDeclaredMethods()) {
      addVisible(members, m.getModifiers(), m.toString());
    }
    for (Field f : Migrator.class.getDeclaredFields()) {
      addVisible(members, f.getModifiers(), f.toString());
    }
    return String.join("\n", members);
  }

  private static void addVisible(TreeSet<String> members, int modifiers, String member) {
    if (!Modifier.isPrivate(modifiers)) {
      members.add(member);
    }
  }
}
