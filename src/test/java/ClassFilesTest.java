import java.io.ByteArrayInputStream;
import java.io.DataInputStream;
import java.io.IOException;
import java.io.InputStream;
import java.util.ArrayList;
import java.util.LinkedHashSet;
import java.util.List;
import java.util.Map;
import java.util.Set;
import java.util.TreeMap;
import java.util.TreeSet;

/** Looks in the compiled classes for what LANGUAGE.md rules out: each method's calls and objects. */
public final class ClassFilesTest {
    private static final String FACE = "CorkPermits";
    /** What the class uses of that which rule 4 lists; another call of that list is put here. */
    private static final Set<String> LIBRARY = Set.of("java/lang/Object.<init>", "java/lang/Math.max",
            "java/lang/System.arraycopy", "java/lang/IllegalStateException.<init>",
            "java/lang/IllegalArgumentException.<init>", "java/lang/IndexOutOfBoundsException.<init>");
    private static final int DEEPEST_CALL = 8;
    private static final int MOST_PARAMETERS = 7;
    private static final int MOST_CLASSES = 12;
    private static final int MOST_FIELDS = 20;

    private static final int STATIC = 0x0008;
    private static final int FINAL = 0x0010;
    private static final int[] CALLS = {182, 183, 184, 185, 186};
    private static final int NEW = 187;
    private static final int ANEWARRAY = 189;
    private static final int MULTIANEWARRAY = 197;
    private static final int TABLESWITCH = 170;
    private static final int LOOKUPSWITCH = 171;
    private static final int WIDE = 196;
    private static final int IINC = 132;
    /** How many bytes follow each of the other operations that some follow. */
    private static final int[][] OPERANDS = {
        // first, last, bytes
        {16, 16, 1}, {17, 17, 2}, {18, 18, 1}, {19, 20, 2}, {21, 25, 1}, {54, 58, 1}, {132, 132, 2},
        {153, 168, 2}, {169, 169, 1}, {178, 184, 2}, {185, 186, 4}, {187, 187, 2}, {188, 188, 1},
        {189, 189, 2}, {192, 193, 2}, {197, 197, 3}, {198, 199, 2}, {200, 201, 4},
    };

    /** What each method calls, by "Class.name" and its descriptor. */
    private static final Map<String, Set<String>> CALLED = new TreeMap<>();
    private static final Set<String> PUBLIC = new TreeSet<>();

    private ClassFilesTest() {
    }

    /** One class file, with its constants as texts: "Class.name(descriptor)" for a method. */
    private static final class ClassFile {
        final DataInputStream in;
        final String[] texts;
        final int[] first;
        final int[] second;
        final String name;
        int fields;

        ClassFile(InputStream bytes) throws IOException {
            in = new DataInputStream(bytes);
            in.skipBytes(8);
            int constants = in.readUnsignedShort();
            texts = new String[constants];
            first = new int[constants];
            second = new int[constants];
            for (int at = 1; at < constants; at++) {
                at += readConstant(at);
            }
            in.skipBytes(2);
            name = className(in.readUnsignedShort());
            in.skipBytes(2);
            in.skipBytes(2 * in.readUnsignedShort());
        }

        /** Answers how many places behind it a constant takes. */
        private int readConstant(int at) throws IOException {
            int tag = in.readUnsignedByte();
            switch (tag) {
                case 1:
                    texts[at] = in.readUTF();
                    return 0;
                case 3:
                case 4:
                    in.skipBytes(4);
                    return 0;
                case 5:
                case 6:
                    in.skipBytes(8);
                    return 1;
                case 7:
                case 8:
                case 16:
                    first[at] = in.readUnsignedShort();
                    return 0;
                case 9:
                case 10:
                case 11:
                case 12:
                    first[at] = in.readUnsignedShort();
                    second[at] = in.readUnsignedShort();
                    return 0;
                default:
                    Check.fail("a constant of the tag " + tag + ": a lambda or the like");
                    in.skipBytes(tag == 15 ? 3 : tag == 17 || tag == 18 ? 4 : 2);
                    return 0;
            }
        }

        String className(int at) {
            return texts[first[at]];
        }

        String member(int at) {
            int nameAndType = second[at];
            return className(first[at]) + "." + texts[first[nameAndType]] + texts[second[nameAndType]];
        }

        private void skipAttributes() throws IOException {
            for (int left = in.readUnsignedShort(); left > 0; left--) {
                in.skipBytes(2);
                in.skipBytes(in.readInt());
            }
        }

        void readFields() throws IOException {
            for (int left = in.readUnsignedShort(); left > 0; left--) {
                int access = in.readUnsignedShort();
                String field = texts[in.readUnsignedShort()];
                in.skipBytes(2);
                skipAttributes();
                if ((access & STATIC) == 0) {
                    fields++;
                } else {
                    Check.same(name + "." + field + " is final", 1, (access & FINAL) != 0 ? 1 : 0);
                }
            }
            Check.same(name + " has too many fields", 0, fields > MOST_FIELDS ? 1 : 0);
        }

        void readMethods() throws IOException {
            for (int left = in.readUnsignedShort(); left > 0; left--) {
                int access = in.readUnsignedShort();
                String method = texts[in.readUnsignedShort()];
                String descriptor = texts[in.readUnsignedShort()];
                String whole = name + "." + method + descriptor;
                if (name.equals(FACE) && (access & 1) != 0) {
                    PUBLIC.add(whole);
                }
                int parameters = descriptor.substring(1, descriptor.indexOf(')'))
                        .replaceAll("\\[*(L[^;]*;|[A-Z])", "x").length();
                Check.same(whole + " takes too many", 0, parameters > MOST_PARAMETERS ? 1 : 0);
                readAttributesOfMethod(method, whole);
            }
        }

        private void readAttributesOfMethod(String method, String whole) throws IOException {
            for (int left = in.readUnsignedShort(); left > 0; left--) {
                String attribute = texts[in.readUnsignedShort()];
                int length = in.readInt();
                if (!attribute.equals("Code")) {
                    in.skipBytes(length);
                    continue;
                }
                in.skipBytes(4);
                byte[] code = new byte[in.readInt()];
                in.readFully(code);
                readCode(code, method, whole);
                int catches = in.readUnsignedShort();
                Check.same(whole + " catches", 0, catches);
                in.skipBytes(8 * catches);
                skipAttributes();
            }
        }

        private void readCode(byte[] code, String method, String whole) throws IOException {
            Set<String> called = new LinkedHashSet<>();
            CALLED.put(whole, called);
            boolean makes = method.equals("<init>") || method.equals("<clinit>");
            for (int at = 0; at < code.length; at += lengthOf(code, at)) {
                int operation = code[at] & 255;
                if (operation >= CALLS[0] && operation <= CALLS[CALLS.length - 1]) {
                    called.add(member(twoBytes(code, at + 1)));
                } else if (operation == NEW && !makes) {
                    String made = className(twoBytes(code, at + 1));
                    Check.same(whole + " makes " + made, 1, made.endsWith("Exception") ? 1 : 0);
                } else if (operation > NEW && operation <= ANEWARRAY || operation == MULTIANEWARRAY) {
                    Check.same(whole + " makes an array", 1, makes ? 1 : 0);
                }
            }
        }
    }

    private static int twoBytes(byte[] code, int at) {
        return (code[at] & 255) << 8 | code[at + 1] & 255;
    }

    private static int fourBytes(byte[] code, int at) {
        return twoBytes(code, at) << 16 | twoBytes(code, at + 2);
    }

    private static int lengthOf(byte[] code, int at) {
        int operation = code[at] & 255;
        int aligned = (at | 3) + 1;
        if (operation == TABLESWITCH) {
            int ways = fourBytes(code, aligned + 8) - fourBytes(code, aligned + 4) + 1;
            return aligned + 12 + 4 * ways - at;
        }
        if (operation == LOOKUPSWITCH) {
            return aligned + 8 + 8 * fourBytes(code, aligned + 4) - at;
        }
        if (operation == WIDE) {
            return (code[at + 1] & 255) == IINC ? 6 : 4;
        }
        for (int[] row : OPERANDS) {
            if (operation >= row[0] && operation <= row[1]) {
                return 1 + row[2];
            }
        }
        return 1;
    }

    private static ClassFile read(String name) throws IOException {
        try (InputStream in = ClassFilesTest.class.getResourceAsStream("/" + name + ".class")) {
            ClassFile file = new ClassFile(new ByteArrayInputStream(in.readAllBytes()));
            file.readFields();
            file.readMethods();
            return file;
        }
    }

    /** How many calls stand open at once, this one too; a library's call is one more. */
    private static int depth(String method, List<String> open) {
        if (open.contains(method)) {
            Check.fail("a recursion: " + open + " and again " + method);
            return 0;
        }
        open.add(method);
        int deepest = 0;
        for (String called : CALLED.getOrDefault(method, Set.of())) {
            deepest = Math.max(deepest, depth(called, open));
        }
        open.remove(open.size() - 1);
        return deepest + 1;
    }

    private static void library() {
        for (Map.Entry<String, Set<String>> method : CALLED.entrySet()) {
            for (String called : method.getValue()) {
                String plain = called.substring(0, called.indexOf('('));
                Check.same(method.getKey() + " calls " + plain, 1,
                        plain.startsWith(FACE) || LIBRARY.contains(plain) ? 1 : 0);
            }
        }
    }

    public static void main(String[] args) throws IOException {
        int classes = 1;
        read(FACE);
        for (Class<?> inside : CorkPermits.class.getDeclaredClasses()) {
            classes++;
            read(inside.getName());
            Check.same(inside.getName() + " has classes of its own", 0,
                    inside.getDeclaredClasses().length);
        }
        Check.same("too many classes", 0, classes > MOST_CLASSES ? 1 : 0);
        library();
        Check.same("methods of the face, and the constructor", 27, PUBLIC.size());
        for (String method : PUBLIC) {
            int deep = depth(method, new ArrayList<>());
            if (args.length > 0) {
                System.out.println(method + " goes " + deep + " deep");
            }
            Check.same(method + " goes too deep", 0, deep > DEEPEST_CALL ? 1 : 0);
        }
        Check.end();
    }
}
