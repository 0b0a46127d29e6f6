public final class NewObjectTest { public static void main(String[] a) { if (new HeapImages().told(0, 0) != 4096) System.exit(1); } }
