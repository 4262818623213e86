/** The terms Recipe and Priority at their limits. */
final class RecipeTermsBoundaries {
  private static final int NONE = RecipeScheduler.NONE;
  private static final String RECIPE = "A recipe has a number of cooks (1 to 4), a hold limit (0 "
      + "to 30 minutes), a lowest and a highest allowed taste (0 to 99, the highest one not below "
      + "the lowest one), up to 4 pan types, and 1 to 14 steps.";
  private static final String STEP = "A step has a name, a duration (1 to 60 minutes), a taste "
      + "value (0 to 9), at most one pan type that it needs, and up to 4 predecessors, which are "
      + "different steps with lower numbers.";
  private static final String NAME = "A name consists of 1 to 6 letters a to z.";
  private static final String PATH = "The path length of a step is its duration plus the greatest "
      + "path length of its successors.";
  private static final String HEAD = "recipe 1 0 0 99;";

  private RecipeTermsBoundaries() {}

  @Sentence(RECIPE)
  static void termsCooksFrom1To4() {
    for (int cooks = 1; cooks <= 4; cooks++) {
      RecipeScheduler x = Kit.loaded("recipe " + cooks + " 0 0 0;step a 1 1;");
      Kit.due("cooks()", x.cooks(), cooks);
    }
    Kit.badSetup(2, "recipe ^0 0 0 0;step a 1 1;");
    Kit.badSetup(2, "recipe ^5 0 0 0;step a 1 1;");
    Kit.badSetup(2, "recipe ^999 0 0 0;step a 1 1;");
  }

  @Sentence(RECIPE)
  static void termsHoldLimitsFrom0To30() {
    for (int hold : new int[] {0, 1, 29, 30}) {
      RecipeScheduler x = Kit.loaded("recipe 1 " + hold + " 0 0;step a 1 1 hot;");
      Kit.due("minutesToBurn(0) with the limit " + hold, x.minutesToBurn(0), 2 + hold + 1);
    }
    Kit.badSetup(2, "recipe 1 ^31 0 0;step a 1 1;");
    Kit.badSetup(2, "recipe 1 ^999 0 0;step a 1 1;");
    Kit.badSetup(1, "recipe 1 ^-1 0 0;step a 1 1;");
  }

  @Sentence(RECIPE)
  static void termsLowestTastesFrom0To99() {
    Kit.due("saltNeeded() for 0", Kit.loaded("recipe 1 0 0 99;step a 1 0;").saltNeeded(), 0);
    Kit.due("saltNeeded() for 99", Kit.loaded("recipe 1 0 99 99;step a 1 0;").saltNeeded(), 99);
    Kit.badSetup(2, "recipe 1 0 ^100 99;step a 1 1;");
    Kit.badSetup(2, "recipe 1 0 ^999 999;step a 1 1;");
  }

  @Sentence(RECIPE)
  static void termsHighestTastesFrom0To99() {
    Kit.due("saltNeeded() for 0", Kit.loaded("recipe 1 0 0 0;step a 1 9;").saltNeeded(), -9);
    RecipeScheduler x = Kit.loaded("recipe 1 0 0 99;step a 1 9;");
    for (int i = 0; i < 10; i++) {
      x.addSalt(9);
    }
    Kit.due("saltNeeded() at 99 for 99", x.saltNeeded(), 0);
    x.addSalt(1);
    Kit.due("saltNeeded() at 100 for 99", x.saltNeeded(), -1);
    Kit.badSetup(2, "recipe 1 0 0 ^100;step a 1 1;");
    Kit.badSetup(2, "recipe 1 0 99 ^100;step a 1 1;");
  }

  @Sentence(RECIPE)
  static void termsTheHighestTasteIsNotBelowTheLowest() {
    Kit.goodSetup("recipe 1 0 50 51;step a 1 1;", 1);
    Kit.goodSetup("recipe 1 0 50 50;step a 1 1;", 1);
    Kit.badSetup(2, "recipe 1 0 50 ^49;step a 1 1;");
    Kit.badSetup(2, "recipe 1 0 1 ^0;step a 1 1;");
    Kit.badSetup(2, "recipe 1 0 99 ^98;step a 1 1;");
  }

  @Sentence(RECIPE)
  static void termsUpTo4PanTypes() {
    Kit.goodSetup(HEAD + "step a 1 1;", 1);
    Kit.goodSetup(HEAD + "pan p 1;step a 1 1;", 1);
    RecipeScheduler x = Kit.loaded(HEAD + "pan p 1;pan q 2;pan r 3;pan s 4;step a 1 1 in s;");
    Kit.due("panType(0)", x.panType(0), 3);
    Kit.due("panCapacity(3)", x.panCapacity(3), 4);
    Kit.badSetup(5, HEAD + "pan p 1;pan q 2;pan r 3;pan s 4;^pan t 5;step a 1 1;");
  }

  @Sentence(RECIPE)
  static void termsFrom1To14Steps() {
    Kit.badSetup(HEAD, 1, HEAD.length());
    Kit.goodSetup(HEAD + "step a 1 1;", 1);
    Kit.goodSetup(Kit.steps(13), 13);
    Kit.goodSetup(Kit.steps(14), 14);
    Kit.badSetup(5, Kit.steps(14) + "^step o 1 1;");
  }

  @Sentence("Pan types and steps are numbered from 0 in the order of the setup text.")
  static void termsNumbersBeginWith0InTheOrderOfTheText() {
    RecipeScheduler x = Kit.loaded(HEAD + "pan d 5;pan a 3;pan c 4;pan b 2;"
        + "step z 7 1 in b;step a 8 2 in d;step m 9 3 in c;");
    int[] capacities = {5, 3, 4, 2};
    for (int pan = 0; pan < 4; pan++) {
      Kit.due("panCapacity " + pan, x.panCapacity(pan), capacities[pan]);
    }
    int[] pans = {3, 0, 2};
    for (int step = 0; step < 3; step++) {
      Kit.due("name", Kit.name(x, step), "" + "zam".charAt(step));
      Kit.due("panType " + step, x.panType(step), pans[step]);
    }
    Kit.throwsJust(Kit.BOUNDS, "duration(3)", () -> x.duration(3));
    Kit.throwsJust(Kit.BOUNDS, "duration(-1)", () -> x.duration(-1));
    Kit.throwsJust(Kit.BOUNDS, "panCapacity(4)", () -> x.panCapacity(4));
    Kit.throwsJust(Kit.BOUNDS, "panCapacity(-1)", () -> x.panCapacity(-1));
  }

  @Sentence("A pan type has a name and a capacity (1 to 5 pans).")
  static void termsCapacitiesFrom1To5() {
    for (int capacity = 1; capacity <= 5; capacity++) {
      RecipeScheduler x = Kit.loaded(HEAD + "pan p " + capacity + ";step a 9 1 in p alone;"
          + "step b 9 1 in p alone;step c 9 1 in p alone;step d 9 1 in p alone;"
          + "step e 9 1 in p alone;step f 9 1 in p alone;");
      x.pass(1);
      Kit.due("panCapacity(0)", x.panCapacity(0), capacity);
      Kit.due("pansInUse(0)", x.pansInUse(0), capacity);
    }
    Kit.badSetup(2, HEAD + "pan p ^0;step a 1 1;");
    Kit.badSetup(2, HEAD + "pan p ^6;step a 1 1;");
    Kit.badSetup(1, HEAD + "pan p^;step a 1 1;");
    Kit.badSetup(1, HEAD + "pan ^5;step a 1 1;");
  }

  @Sentence(STEP)
  static void termsDurationsFrom1To60() {
    RecipeScheduler x = Kit.loaded(HEAD + "step a 1 1;step b 60 1;");
    Kit.due("duration(0)", x.duration(0), 1);
    Kit.due("duration(1)", x.duration(1), 60);
    Kit.badSetup(2, HEAD + "step a ^0 1;");
    Kit.badSetup(2, HEAD + "step a ^61 1;");
    Kit.badSetup(2, HEAD + "step a 60 1;step b ^999 1;");
  }

  @Sentence(STEP)
  static void termsTasteValuesFrom0To9() {
    RecipeScheduler x = Kit.loaded(HEAD + "step a 1 0;step b 1 9;");
    Kit.due("stepTaste(0)", x.stepTaste(0), 0);
    Kit.due("stepTaste(1)", x.stepTaste(1), 9);
    Kit.badSetup(2, HEAD + "step a 1 ^10;");
    Kit.badSetup(1, HEAD + "step a 1 ^-1;");
  }

  @Sentence(STEP)
  static void termsAtMostOnePanType() {
    RecipeScheduler x = Kit.loaded(HEAD + "pan p 1;pan q 1;step a 1 0;step b 1 9 in q;");
    Kit.due("panType(0)", x.panType(0), NONE);
    Kit.due("panType(1)", x.panType(1), 1);
    Kit.badSetup(1, HEAD + "pan p 1;pan q 1;step a 1 0 in p ^in q;");
    Kit.badSetup(1, HEAD + "pan p 1;pan q 1;step a 1 0 in p ^q;");
  }

  @Sentence(STEP)
  static void termsUpTo4Predecessors() {
    String five = HEAD + "step a 1 1;step b 1 1;step c 1 1;step d 1 1;step e 1 1;";
    Kit.due("predecessor(5, 0)", Kit.loaded(five + "step f 1 1;").predecessor(5, 0), NONE);
    RecipeScheduler x = Kit.loaded(five + "step f 1 1 after e d c b;");
    for (int i = 0; i < 4; i++) {
      Kit.due("predecessor(5, " + i + ")", x.predecessor(5, i), 4 - i);
    }
    Kit.badSetup(5, five + "step f 1 1 after e d c b ^a;");
  }

  @Sentence(STEP)
  static void termsPredecessorsAreDifferentSteps() {
    String four = HEAD + "step a 1 1;step b 1 1;step c 1 1;step d 1 1;";
    Kit.goodSetup(four + "step e 1 1 after a;step f 1 1 after a;", 6);
    Kit.badSetup(4, four + "step e 1 1 after a ^a;");
    Kit.badSetup(4, four + "step e 1 1 after a b c ^a;");
    Kit.badSetup(4, four + "step e 1 1 after a b c d ^d;");
  }

  @Sentence(STEP)
  static void termsPredecessorsHaveLowerNumbers() {
    Kit.goodSetup(HEAD + "step a 1 1;step b 1 1 after a;step c 1 1 after b a;", 3);
    Kit.badSetup(3, HEAD + "step a 1 1 after ^a;");
    Kit.badSetup(3, HEAD + "step a 1 1 after ^b;step b 1 1;");
    Kit.badSetup(3, HEAD + "step a 1 1;step b 1 1 after a ^b;step c 1 1;");
    Kit.badSetup(3, HEAD + "step a 1 1;step b 1 1 after a ^c;step c 1 1;");
  }

  @Sentence("A step may be hot, and it may be unattended.")
  static void termsHotAndUnattendedEachOnceOrNot() {
    RecipeScheduler x = Kit.loaded(HEAD + "step a 1 1;step b 1 1 hot;step c 1 1 alone;"
        + "step d 1 1 hot alone;");
    for (int step = 0; step < 4; step++) {
      Kit.due("isHot " + step, x.isHot(step), step % 2 == 1);
      Kit.due("isUnattended " + step, x.isUnattended(step), step >= 2);
    }
    Kit.badSetup(1, HEAD + "step a 1 1 hot ^hot;");
    Kit.badSetup(1, HEAD + "step a 1 1 alone ^alone;");
  }

  @Sentence("The successors of a step are the steps of which it is a predecessor.")
  static void termsFrom0To13Successors() {
    RecipeScheduler x = Kit.loaded(Kit.fan(14));
    Kit.due("successorCount(0)", x.successorCount(0), 13);
    Kit.due("successorCount(1)", x.successorCount(1), 0);
    Kit.due("successorCount(13)", x.successorCount(13), 0);
    Kit.due("successors of successors", Kit.loaded(Kit.chain(3, 1)).successorCount(0), 1);
  }

  @Sentence(NAME)
  static void termsNamesOf1To6Letters() {
    for (String name : new String[] {"a", "zz", "abcde", "abcdef"}) {
      RecipeScheduler x = Kit.loaded(HEAD + "pan " + name + " 1;step " + name + " 1 1 in " + name
          + ";step x 1 1 after " + name + ";");
      Kit.due("the name", Kit.name(x, 0), name);
      Kit.due("panType(0)", x.panType(0), 0);
      Kit.due("predecessor(1, 0)", x.predecessor(1, 0), 0);
    }
    Kit.badSetup(1, HEAD + "step ^1 1;");
    Kit.badSetup(1, HEAD + "pan ^1;step a 1 1;");
    Kit.badSetup(3, HEAD + "step ^abcdefg 1 1;");
    Kit.badSetup(3, HEAD + "pan ^abcdefg 1;step a 1 1;");
  }

  @Sentence(NAME)
  static void termsNamesOfTheLettersAToZ() {
    String letters = "abcdefghijklmnopqrstuvwxyz";
    for (int i = 0; i < 26; i++) {
      String name = "" + letters.charAt(i);
      Kit.due("the name", Kit.name(Kit.loaded(HEAD + "step " + name + " 1 1;"), 0), name);
    }
    // What stands ahead of a and behind z, and A and Z.
    for (char other : new char[] {'`', '{', 'A', 'Z', '_', '\u00e1', '\u00fa'}) {
      Kit.badSetup(1, HEAD + "step ^" + other + " 1 1;");
      Kit.badSetup(1, HEAD + "step ab^" + other + " 1 1;");
    }
  }

  @Sentence("A word of the grammar can be a name wherever the grammar requires a name.")
  static void termsEveryWordOfTheGrammarIsAName() {
    String words = "recipe pan step in hot alone after pass salt water stop redo cooks time serve";
    for (String word : words.split(" ")) {
      RecipeScheduler x = Kit.loaded("recipe 4 0 0 99;pan " + word + " 1;step " + word + " 5 1 in "
          + word + " hot;step x 1 1 after " + word + ";");
      Kit.due("the name", Kit.name(x, 0), word);
      Kit.due("predecessor(1, 0)", x.predecessor(1, 0), 0);
      Kit.due("panType(0)", x.panType(0), 0);
      Kit.due("isHot(0)", x.isHot(0), true);
      Kit.due("runScript()", Kit.script(x, "pass 1;time " + word + " 9;stop " + word + ";"), 3);
      Kit.due("runScript()", Kit.script(x, "redo " + word + ";"), 0);
      Kit.due("errorCode()", x.errorCode(), 0);
    }
  }

  @Sentence("Two pan types never have the same name.")
  static void termsPanTypesHaveDifferentNames() {
    Kit.goodSetup(HEAD + "pan a 1;pan aa 1;pan b 1;pan ab 1;step a 1 1;", 1);
    Kit.badSetup(3, HEAD + "pan a 1;pan ^a 2;step a 1 1;");
    Kit.badSetup(3, HEAD + "pan a 1;pan b 1;pan c 1;pan ^a 2;step a 1 1;");
    Kit.badSetup(3, HEAD + "pan a 1;pan b 1;pan abcdef 1;pan ^abcdef 2;step a 1 1;");
  }

  @Sentence("Two steps never have the same name.")
  static void termsStepsHaveDifferentNames() {
    Kit.goodSetup(HEAD + "step a 1 1;step aa 1 1;step b 1 1;step ab 1 1;", 4);
    Kit.goodSetup(HEAD + "pan a 1;pan b 1;step b 1 1;step a 1 1;", 2);
    Kit.badSetup(3, HEAD + "step a 1 1;step ^a 2 2;");
    Kit.badSetup(3, Kit.steps(13) + "step ^a 1 1;");
    Kit.badSetup(3, Kit.steps(13) + "step ^m 1 1;");
  }

  @Sentence(PATH)
  static void termsAPathGoesOnWithTheLongestSuccessor() {
    RecipeScheduler x = Kit.loaded(HEAD + "step a 1 1;step b 5 1 after a;step c 7 1 after a;"
        + "step d 6 1 after a;step e 60 1;");
    Kit.due("pathLength(0) by c", x.pathLength(0), 8);
    x.setDuration(1, 8);
    Kit.due("pathLength(0) by b", x.pathLength(0), 9);
    x.setDuration(3, 9);
    Kit.due("pathLength(0) by d", x.pathLength(0), 10);
    x.setDuration(2, 9);
    Kit.due("pathLength(0) by c or d", x.pathLength(0), 10);
  }

  @Sentence(PATH)
  static void termsTheLongestPath() {
    RecipeScheduler x = Kit.loaded(Kit.chain(14, 60));
    for (int step = 0; step < 14; step++) {
      Kit.due("pathLength " + step, x.pathLength(step), 60 * (14 - step));
    }
  }

  @Sentence("The path length of a step without successors is its duration.")
  static void termsAPathWithoutSuccessors() {
    RecipeScheduler x = Kit.loaded(HEAD + "step a 1 1;step b 60 1;step c 5 1 after b;");
    Kit.due("pathLength(0)", x.pathLength(0), 1);
    Kit.due("pathLength(1), having one", x.pathLength(1), 65);
    Kit.due("pathLength(2)", x.pathLength(2), 5);
    x.setDuration(2, 60);
    Kit.due("pathLength(2)", x.pathLength(2), 60);
  }
}
