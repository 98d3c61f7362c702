public final class SmokeTests { public static void main(String[] a) { if (new PropertyTests().told(8) != 0) System.exit(1); } }
