import java.util.List;

/** Files that break one rule of LANGUAGE.md each. */
final class BrokenSources {
    /** The file breaks these words of this rule. */
    record Broken(int rule, String words, String text) {
        @Override
        public String toString() {
            return "rule " + rule + " '" + words + "', broken by " + text;
        }
    }

    private static final String LIBRARY = "The library: only what stands here.";
    private static final String WRITTEN_OUT = "written out in their initialiser and never changed";
    private static final String DIVISOR = "a divisor before it divides";
    private static final String LOOP_END = "Every loop has an end that can be seen from its own lines";
    private static final String MADE = "What a run makes is counted";
    private static final String HANDED_OUT = "hands out nothing of the object that it makes";
    private static final String MAKER = "private static interface Maker { int make(); }";
    private static final String PART =
            " private static final class Part { Part(int[] row) { row[0] = 1; } }";

    private BrokenSources() {
    }

    static List<Broken> all() {
        return List.of(
                new Broken(1, "The face: the class of the document",
                        "package wires; public final class RecordWire { }"),
                broken(2, "static nested classes", "private final class Inner { }"),
                broken(2, "no lambda, no method reference",
                        MAKER + " Maker maker() { return () -> 3; }"),
                broken(2, "no lambda, no method reference",
                        MAKER + " static int three() { return 3; }"
                                + " Maker maker() { return RecordWire::three; }"),
                broken(3, "Types: int, long, short, byte, char, boolean", "Object any;"),
                broken(3, "Types: int, long, short, byte, char, boolean", "int[][][] cube;"),
                new Broken(4, LIBRARY,
                        "import java.util.Random; public final class RecordWire { }"),
                broken(4, LIBRARY, "long now() { return System.nanoTime(); }"),
                broken(4, LIBRARY, "int sum(int a) { return Math.addExact(a, 1); }"),
                broken(4, LIBRARY, "int parsed() { return Integer.parseInt(\"1\"); }"),
                broken(5, "Static fields are final", "private static int[] row = {1};"),
                broken(5, "no static initialiser block", "static { }"),
                broken(5, WRITTEN_OUT, "private static final int[] ROW = new int[3];"),
                broken(5, WRITTEN_OUT,
                        "private static final int[] ROW = {1}; void set() { ROW[0] = 2; }"),
                broken(5, WRITTEN_OUT,
                        "private static final int[] ROW = {1}; void set() { ROW[0]++; }"),
                broken(5, WRITTEN_OUT,
                        "private static final int[] ROW = {1}; void set() { ROW[0] ^= 2; }"),
                broken(5, WRITTEN_OUT, "private static final int[] ROW = {1};"
                        + " void give() { take(ROW); } void take(int[] row) { row[0] = 1; }"),
                broken(6, "A call of the face throws exactly what and where the document says",
                        "int refuse() { throw null; }"),
                broken(6, "try with one or more catches of these classes round calls of methods"
                        + " that throw", "void call() { try { call2(); } finally { } }"
                        + " void call2() { }"),
                broken(6, "No synchronized, assert", "void hold() { synchronized (this) { } }"),
                broken(6, "No synchronized, assert", "void sure(int a) { assert a > 0; }"),
                broken(6, "a cast only behind the test that makes it safe",
                        "private static class A { } private static final class B extends A { }"
                                + " B cast(A a) { return (B) a; }"),
                broken(7, DIVISOR, "int part(int a, int b) { return a / b; }"),
                broken(7, DIVISOR, "int part(int a, int b) { a %= b; return a; }"),
                broken(8, "Recursion", "int one() { return two(); } int two() { return one(); }"),
                broken(9, LOOP_END, "void run() { for (;;) { } }"),
                broken(9, LOOP_END, "void run(int a) { while (a > 0) { a--; } }"),
                broken(9, LOOP_END, "void run(int a) { do { a--; } while (a > 0); }"),
                broken(9, LOOP_END, "void run() { for (int i = 0; i < 9; i--) { } }"),
                broken(9, LOOP_END, "void run() { for (int i = 0; i < 9; i++) { i = 0; } }"),
                broken(9, LOOP_END, "void run(int a) { for (int i = 0; a < 9; i++) { } }"),
                broken(10, "joining texts by StringBuilder (not by +)",
                        "boolean joined(int a) { return (\"a\" + a) == null; }"),
                broken(11, "A method takes at most seven parameters.",
                        "void many(int a, int b, int c, int d, int e, int f, int g, int h) { }"),
                broken(11, "Methods stay short (some sixty lines)",
                        "void lines() {" + "\n".repeat(60) + "}"),
                broken(11, "calls that are no recursion go at most eight deep", chain(9)),
                broken(11, "the file has at most some twelve classes", classes(12)),
                broken(11, "a class some twenty fields beside its constants", fields(21)),
                broken(12, MADE, "void make() { int[] row = new int[2]; }"),
                broken(12, MADE, "void make() { new RecordWire(); }"),
                broken(12, HANDED_OUT, "private final int[] row = new int[2];"
                        + " private final Part part = new Part(row);" + PART),
                broken(12, HANDED_OUT, "private final int[] row = new int[2];"
                        + " private final Part part; RecordWire() { part = new Part(row); }" + PART),
                broken(12, HANDED_OUT, "RecordWire() { take(this); }"
                        + " private static void take(RecordWire wire) { }"),
                broken(12, "A constructor calls no method that another class could override",
                        "private static class Open { Open() { step(); } void step() { } }"));
    }

    /** A class with these members. */
    static String inClass(String members) {
        return "public final class RecordWire {\n" + members + "\n}\n";
    }

    private static Broken broken(int rule, String words, String members) {
        return new Broken(rule, words, inClass(members));
    }

    /** Methods of which each calls the next. */
    private static String chain(int length) {
        StringBuilder methods = new StringBuilder("void m").append(length).append("() { }\n");
        for (int i = 1; i < length; i++) {
            methods.append("void m" + i + "() { m" + (i + 1) + "(); }\n");
        }
        return methods.toString();
    }

    private static String classes(int count) {
        StringBuilder classes = new StringBuilder();
        for (int i = 0; i < count; i++) {
            classes.append("private static final class C" + i + " { }\n");
        }
        return classes.toString();
    }

    private static String fields(int count) {
        StringBuilder fields = new StringBuilder();
        for (int i = 0; i < count; i++) {
            fields.append("private int f" + i + ";\n");
        }
        return fields.toString();
    }
}
