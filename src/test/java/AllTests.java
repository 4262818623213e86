public final class AllTests { public static void main(String[] a) { new RecipeScheduler(); } }
