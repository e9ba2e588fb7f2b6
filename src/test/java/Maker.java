import java.io.ByteArrayOutputStream;
import java.util.ArrayList;
import java.util.Arrays;
import java.util.List;

/** Makes class files item by item, wrong ones too, and tells where their parts begin. */
final class Maker {
    /** An attribute: what is not given a length of its own has that of its bytes. */
    static final class Attribute {
        final int name;
        final byte[] body;
        int length;

        Attribute(int name, byte[] body) {
            this.name = name;
            this.body = body;
            length = body.length;
        }
    }

    static final class Part {
        int flags;
        int name;
        int descriptor;
        final List<Attribute> attributes = new ArrayList<>();

        Part with(Attribute... more) {
            attributes.addAll(Arrays.asList(more));
            return this;
        }
    }

    int minor = 0;
    int major;
    int flags = 33;
    int thisClass;
    int superClass;
    int poolCount = -1;
    final List<byte[]> entries = new ArrayList<>();
    final List<Integer> interfaces = new ArrayList<>();
    final List<Part> fields = new ArrayList<>();
    final List<Part> methods = new ArrayList<>();
    final List<Attribute> attributes = new ArrayList<>();

    int[] entryAt;
    int flagsAt;
    int interfacesAt;
    int[] fieldAt;
    int[] methodAt;
    int[][] fieldAttributeAt;
    int[][] methodAttributeAt;
    int[] attributeAt;
    int behind;

    /** A class of this version named A, below java/lang/Object. */
    Maker(int major) {
        this.major = major;
        entries.add(new byte[0]);
        thisClass = type("A");
        superClass = type("java/lang/Object");
    }

    static byte[] u1(int... values) {
        byte[] made = new byte[values.length];
        for (int i = 0; i < values.length; i++) {
            made[i] = (byte) values[i];
        }
        return made;
    }

    static byte[] u2(int... values) {
        byte[] made = new byte[2 * values.length];
        for (int i = 0; i < values.length; i++) {
            made[2 * i] = (byte) (values[i] >> 8);
            made[2 * i + 1] = (byte) values[i];
        }
        return made;
    }

    static byte[] u4(int... values) {
        byte[] made = new byte[4 * values.length];
        for (int i = 0; i < values.length; i++) {
            for (int j = 0; j < 4; j++) {
                made[4 * i + j] = (byte) (values[i] >> 24 - 8 * j);
            }
        }
        return made;
    }

    static byte[] join(byte[]... parts) {
        ByteArrayOutputStream all = new ByteArrayOutputStream();
        for (byte[] part : parts) {
            all.writeBytes(part);
        }
        return all.toByteArray();
    }

    int entry(byte[]... parts) {
        entries.add(join(parts));
        return entries.size() - 1;
    }

    private int once(byte[] wanted) {
        for (int k = 1; k < entries.size(); k++) {
            if (Arrays.equals(entries.get(k), wanted)) {
                return k;
            }
        }
        return entry(wanted);
    }

    static byte[] utf8(String text) {
        ByteArrayOutputStream all = new ByteArrayOutputStream();
        for (char c : text.toCharArray()) {
            if (c > 0 && c < 128) {
                all.write(c);
            } else if (c < 2048) {
                all.write(192 | c >> 6);
                all.write(128 | c & 63);
            } else {
                all.write(224 | c >> 12);
                all.write(128 | c >> 6 & 63);
                all.write(128 | c & 63);
            }
        }
        return join(u1(1), u2(all.size()), all.toByteArray());
    }

    int text(String text) {
        return once(utf8(text));
    }

    /** The same text once more, as an entry of its own. */
    int textAgain(String text) {
        return entry(utf8(text));
    }

    int type(String name) {
        return once(join(u1(7), u2(text(name))));
    }

    int string(String text) {
        return once(join(u1(8), u2(text(text))));
    }

    int number(int value) {
        return once(join(u1(3), u4(value)));
    }

    int floating(int bits) {
        return once(join(u1(4), u4(bits)));
    }

    /** A Long (5) or Double (6). */
    int wide(int tag, long bits) {
        int k = entry(u1(tag), u4((int) (bits >> 32), (int) bits));
        entries.add(new byte[0]);
        return k;
    }

    /** The first Long or Double. */
    int wideAt() {
        int k = 1;
        while (entries.get(k).length != 9 || entries.get(k)[0] < 5 || entries.get(k)[0] > 6) {
            k++;
        }
        return k;
    }

    int pair(String name, String descriptor) {
        return once(join(u1(12), u2(text(name), text(descriptor))));
    }

    /** A Fieldref (9), Methodref (10) or InterfaceMethodref (11). */
    int ref(int tag, String owner, String name, String descriptor) {
        return once(join(u1(tag), u2(type(owner), pair(name, descriptor))));
    }

    int handle(int kind, int named) {
        return once(join(u1(15, kind), u2(named)));
    }

    int methodType(String descriptor) {
        return once(join(u1(16), u2(text(descriptor))));
    }

    /** A Dynamic (17) or InvokeDynamic (18). */
    int dynamic(int tag, int bootstrap, String name, String descriptor) {
        return once(join(u1(tag), u2(bootstrap, pair(name, descriptor))));
    }

    Attribute attribute(String name, byte[]... body) {
        return new Attribute(text(name), join(body));
    }

    Part field(int fieldFlags, String name, String descriptor) {
        return add(fields, fieldFlags, text(name), text(descriptor));
    }

    Part method(int methodFlags, String name, String descriptor) {
        return add(methods, methodFlags, text(name), text(descriptor));
    }

    static Part add(List<Part> parts, int partFlags, int name, int descriptor) {
        Part made = new Part();
        made.flags = partFlags;
        made.name = name;
        made.descriptor = descriptor;
        parts.add(made);
        return made;
    }

    Attribute code(int maxStack, int maxLocals, byte[] code, byte[] rows, Attribute... inside) {
        return attribute("Code", u2(maxStack, maxLocals), u4(code.length), code,
                u2(rows.length / 8), rows, u2(inside.length), written(inside));
    }

    static byte[] written(Attribute... attributes) {
        ByteArrayOutputStream all = new ByteArrayOutputStream();
        for (Attribute one : attributes) {
            all.writeBytes(join(u2(one.name), u4(one.length), one.body));
        }
        return all.toByteArray();
    }

    /** A static method without arguments that has this code. */
    Part coded(String name, int maxLocals, int... code) {
        return method(9, name, "()V").with(code(9, maxLocals, u1(code), new byte[0]));
    }

    byte[] bytes() {
        ByteArrayOutputStream all = new ByteArrayOutputStream();
        all.writeBytes(u4(0xCAFEBABE));
        all.writeBytes(u2(minor, major, poolCount < 0 ? entries.size() : poolCount));
        entryAt = new int[entries.size()];
        for (int k = 1; k < entries.size(); k++) {
            entryAt[k] = all.size();
            all.writeBytes(entries.get(k));
        }
        flagsAt = all.size();
        all.writeBytes(u2(flags, thisClass, superClass, interfaces.size()));
        interfacesAt = all.size();
        for (int one : interfaces) {
            all.writeBytes(u2(one));
        }
        fieldAt = new int[fields.size()];
        fieldAttributeAt = new int[fields.size()][];
        writeParts(all, fields, fieldAt, fieldAttributeAt);
        methodAt = new int[methods.size()];
        methodAttributeAt = new int[methods.size()][];
        writeParts(all, methods, methodAt, methodAttributeAt);
        attributeAt = writeAttributes(all, attributes);
        behind = all.size();
        return all.toByteArray();
    }

    private static void writeParts(ByteArrayOutputStream all, List<Part> parts, int[] at, int[][] attributeAt) {
        all.writeBytes(u2(parts.size()));
        for (int i = 0; i < parts.size(); i++) {
            Part one = parts.get(i);
            at[i] = all.size();
            all.writeBytes(u2(one.flags, one.name, one.descriptor));
            attributeAt[i] = writeAttributes(all, one.attributes);
        }
    }

    private static int[] writeAttributes(ByteArrayOutputStream all, List<Attribute> attributes) {
        all.writeBytes(u2(attributes.size()));
        int[] at = new int[attributes.size()];
        for (int i = 0; i < at.length; i++) {
            at[i] = all.size();
            all.writeBytes(written(attributes.get(i)));
        }
        return at;
    }
}
