import java.nio.file.Files;
import java.nio.file.Path;
import java.util.Set;

/** The program keeps to LANGUAGE.md, as far as Language can tell; and Language does find faults. */
public final class LanguageTest {
    private static final Path PROGRAM = Path.of("src/main/java/MajorityClock.java");

    public static void main(String[] args) throws Exception {
        Due.by("The program keeps to LANGUAGE.md");
        Due.same("the faults of the program", Language.faults(Files.readString(PROGRAM)).toString(), "[]");
        Due.by("A fault of each kind is found");
        Due.same("the faults of a class without any", Language.faults(inClass(SOUND)).toString(), "[]");
        faultsOfClasses();
        faultsOfState();
        faultsOfStatements();
        faultsOfSize();
        Due.end();
    }

    private static final String SOUND = "static final int[] ROW = {1, 2}; private long now; "
            + "long f(int n) { long sum = 0; for (int i = 0; i < n; i++) { sum += Math.floorDiv(i, 2); } return sum; } "
            + "private static final class Part { final long[] row = new long[3]; int[][] table; }";

    private static String inClass(String members) {
        return "public final class MajorityClock { " + members + " }";
    }

    private static void found(int rule, String members) throws Exception {
        foundIn(rule, inClass(members));
    }

    private static void foundIn(int rule, String source) throws Exception {
        Set<String> faults = Language.faults(source);
        boolean found = false;
        for (String fault : faults) {
            found |= fault.startsWith("rule " + rule + ",");
        }
        Due.yes("rule " + rule + " in " + source + " (found: " + faults + ")", found);
    }

    private static void faultsOfClasses() throws Exception {
        foundIn(1, inClass("") + " class Second { }");
        found(1, "public static class Open { }");
        found(1, "protected static class Open { }");
        found(2, "class Inner { }");
        found(2, "void f() { class Local { } }");
        found(2, "Object o = new Object() { };");
        found(2, "Runnable r = () -> { };");
        found(2, "Runnable r = this::f; void f() { }");
    }

    private static void faultsOfState() throws Exception {
        found(3, "Long boxed;");
        found(3, "Object[] anything;");
        found(3, "void f(Runnable r) { }");
        foundIn(4, "import java.util.HashMap; " + inClass(""));
        found(4, "Object o = new Object();");
        found(4, "long f() { return System.nanoTime(); }");
        found(4, "double f() { return Math.random(); }");
        found(4, "int f() { return Math.addExact(1, 2); }");
        found(4, "double f() { return Math.sqrt(2.0); }");
        found(5, "static int count;");
        found(5, "private static final Part ONE = new Part(); static class Part { }");
        found(5, "static { }");
    }

    private static void faultsOfStatements() throws Exception {
        found(6, "void f() { throw null; }");
        found(6, "void f() { try { } finally { } }");
        found(6, "void f() { synchronized (this) { } }");
        found(6, "synchronized void f() { }");
        found(6, "void f() { assert true; }");
        found(8, "void f() { f(); }");
        found(8, "void f() { g(); } void g() { f(); }");
        found(9, "void f() { for (;;) { } }");
        found(9, "void f() { while (true) { } }");
        found(10, "int f(int n) { return (\"a\" + n).length(); }");
        found(10, "void f(String text) { text += \"a\"; }");
        found(12, "long[] f() { return new long[1]; }");
        found(12, "void f() { new Part(); } static class Part { }");
    }

    private static void faultsOfSize() throws Exception {
        String seven = "int a, int b, int c, int d, int e, int f, int g";
        Due.same("seven parameters", Language.faults(inClass("void m(" + seven + ") { }")).toString(), "[]");
        found(11, "void m(" + seven + ", int h) { }");
        found(11, "void f() {" + "\n".repeat(60) + "}");
        found(11, chainOfCalls(9));
        Due.same("calls eight deep", Language.faults(inClass(chainOfCalls(8))).toString(), "[]");
        found(11, manyOf("static class C# { } ", 12));
        found(11, manyOf("int n#; ", 21));
    }

    private static String chainOfCalls(int depth) {
        return manyOf("void f#() { f^(); } ", depth - 1) + "void f" + (depth - 1) + "() { }";
    }

    /** The form so many times, # being the number of the time and ^ the next one. */
    private static String manyOf(String form, int times) {
        StringBuilder all = new StringBuilder();
        for (int i = 0; i < times; i++) {
            all.append(form.replace("#", "" + i).replace("^", "" + (i + 1)));
        }
        return all.toString();
    }
}
