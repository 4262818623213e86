/** The term Errors: the codes 1 to 5, their positions, and which of several errors counts. */
final class ErrorBoundaries {
  private static final String HEAD = "recipe 1 0 0 99;";
  private static final String FIVE =
      HEAD + "step a 1 1;step b 1 1;step c 1 1;step d 1 1;step e 1 1;";
  private static final String FOUR_PANS = HEAD + "pan a 1;pan b 1;pan c 1;pan d 1;";
  private static final String THIRTY = "cooks 1;".repeat(30);
  private static final String POSITION = "The error position is the index of the first byte of "
      + "this token, or the length of the text if the text ends too early.";
  private static final String LOWEST =
      "If several errors apply to the same token, the lowest code is reported:";
  private static final String CODE_1 = "code 1: an invalid token, a token that the grammar does "
      + "not allow at this place, or an unexpected end of the text;";
  private static final String CODE_2 = "code 2: a number out of range in a setup text, including a "
      + "highest taste below the lowest taste (numbers in a script are not checked by the parser);";
  private static final String CODE_3 = "code 3: a name of more than 6 letters, the name of a new "
      + "pan type or step that already exists, or the name of a pan type or step that does not "
      + "exist (in a setup, only steps further ahead in the text exist);";
  private static final String CODE_4 = "code 4: a name behind \"after\" that already appears "
      + "behind the same \"after\";";
  private static final String CODE_5 = "code 5: the first word of a 5th pan type or a 15th step, a "
      + "5th name behind \"after\", or the first word of a 31st command.";

  private ErrorBoundaries() {}

  @Sentence({"A text is parsed from left to right.",
      "The first token with an error determines the error code and the error position."})
  static void termsTheFirstOfSeveralErrorsCounts() {
    Kit.badSetup(2, "recipe ^0 0 0 0;step a ? 1;");
    Kit.badSetup(1, "recipe ^? 0 0 0;step a 0 1;");
    Kit.badSetup(2, "recipe ^0 31 100 0;");
    Kit.badSetup(3, HEAD + "pan abcdef 1;pan ^abcdefg 0;step a 1");
    Kit.badSetup(4, FIVE + "step f 1 1 after a ^a ?;");
    Kit.badSetup(5, FIVE + "step f 1 1 after a b c d ^e a;");
    Kit.badSetup(5, FOUR_PANS + "^pan a 0 ?");
    Kit.badSetup(5, Kit.steps(14) + "^step a 0 ?");
    Kit.badScript(3, "stop ^nobody;stop;?");
    Kit.badScript(1, "stop^;stop nobody;");
    Kit.badScript(5, THIRTY + "^stop nobody");
  }

  @Sentence(POSITION)
  static void termsPositionsFrom0ToTheLastByte() {
    Kit.badSetup(1, "^?");
    Kit.badSetup(1, "^?recipe");
    Kit.badSetup(1, "  ^abcdefghi");
    Kit.badSetup(1, "\n^1234");
    Kit.badScript(1, "^abcdefghi");
    Kit.badScript(1, "pass ^cut");
    Kit.badScript(1, " ".repeat(699) + "^?");
    Kit.badScript(1, " ".repeat(690) + "^abcdefghij");
  }

  @Sentence(POSITION)
  static void termsThePositionOfAnEndIsTheLengthOfTheText() {
    Kit.badSetup("", 1, 0);
    Kit.badSetup(" ", 1, 1);
    Kit.badSetup("recipe", 1, 6);
    Kit.badSetup("recipe \n ", 1, 9);
    Kit.badSetup(HEAD, 1, HEAD.length());
    Kit.badSetup(HEAD + "step a 1 1", 1, HEAD.length() + 10);
    Kit.badSetup(" ".repeat(700), 1, 700);
    Kit.badScript("pass", 1, 4);
    Kit.badScript("pass 1", 1, 6);
    Kit.badScript("pass 1 \n", 1, 8);
    Kit.badScript("time" + " ".repeat(696), 1, 700);
  }

  @Sentence(LOWEST)
  static void termsAnInvalidTokenIsNoMoreThanThat() {
    // A word of 9 letters is too long for a name too, and a number of 4 digits is out of range.
    Kit.badSetup(1, HEAD + "pan ^abcdefghi 1;");
    Kit.badSetup(1, HEAD + "step ^abcdefghi 1 1;");
    Kit.badSetup(1, FIVE + "step f 1 1 after a b c d ^abcdefghi;");
    Kit.badSetup(1, "recipe ^9999 0 0 0;");
    Kit.badScript(1, "stop ^abcdefghi;");
    Kit.badScript(1, THIRTY + "^abcdefghi 1;");
  }

  @Sentence(LOWEST)
  static void termsA5thNameBehindAfterWithAnotherError() {
    Kit.badSetup(3, FIVE + "step f 1 1 after a b c d ^f;");
    Kit.badSetup(3, FIVE + "step f 1 1 after a b c d ^abcdefg;");
    Kit.badSetup(4, FIVE + "step f 1 1 after a b c d ^d;");
    Kit.badSetup(4, FIVE + "step f 1 1 after a b c d ^a;");
    Kit.badSetup(5, FIVE + "step f 1 1 after a b c d ^e;");
    Kit.badSetup(1, FIVE + "step f 1 1 after a b c d ^1;");
  }

  @Sentence(LOWEST)
  static void termsA31stCommandWithAnotherError() {
    Kit.badScript(5, THIRTY + "^cooks 1;");
    Kit.badScript(1, THIRTY + "^cook 1;");
    Kit.badScript(1, THIRTY + "^1;");
    Kit.badScript(1, THIRTY + "^;");
    Kit.badScript(1, THIRTY + "^?");
  }

  @Sentence(CODE_1)
  static void termsCode1ForAnInvalidToken() {
    Kit.badSetup(1, HEAD + "step a 1 1^,");
    Kit.badSetup(1, HEAD + "step a ^0001 1;");
    Kit.badSetup(1, HEAD + "^stepsteps a 1 1;");
    Kit.badScript(1, "pass 1;^-");
    Kit.badScript(1, "cooks ^0001;");
  }

  @Sentence(CODE_1)
  static void termsCode1ForATokenInTheWrongPlace() {
    Kit.badSetup(1, HEAD + "^pans a 1;");
    Kit.badSetup(1, HEAD + "step a 1 1 ^1;");
    Kit.badSetup(1, HEAD + "step ^; a 1 1;");
    Kit.badSetup(1, HEAD + "step a ^a 1;");
    Kit.badScript(1, "pass ^pass;");
    Kit.badScript(1, "^step a;");
  }

  @Sentence(CODE_1)
  static void termsCode1ForAnEndWhereMoreIsDue() {
    String setup = HEAD + "pan p 1;step a 1 1;step b 1 1 in p hot alone after a;";
    String[] parts = {"recipe", "recipe 1", "recipe 1 0", "recipe 1 0 0", "recipe 1 0 0 99", HEAD,
        HEAD + "pan", HEAD + "pan p", HEAD + "pan p 1", HEAD + "pan p 1;", HEAD + "step",
        HEAD + "step a", HEAD + "step a 1", HEAD + "step a 1 1", setup + "step",
        setup + "step c 1 1 in", setup + "step c 1 1 in p", setup + "step c 1 1 hot",
        setup + "step c 1 1 alone", setup + "step c 1 1 after", setup + "step c 1 1 after a"};
    for (String part : parts) {
      Kit.badSetup(part, 1, part.length());
    }
    Kit.goodSetup(setup, 2);
    for (String part : new String[] {"pass", "pass 1", "stop", "stop cut", "time", "time cut",
        "time cut 1", "serve", "pass 1;serve"}) {
      Kit.badScript(part, 1, part.length());
    }
  }

  @Sentence(CODE_2)
  static void termsCode2OnBothSidesOfEachRange() {
    String[] first = {"recipe ^0 0 0 0;", "recipe ^5 0 0 0;", "recipe 1 ^31 0 0;",
        "recipe 1 0 ^100 100;", "recipe 1 0 0 ^100;", "recipe 1 0 1 ^0;", "recipe 1 0 99 ^98;",
        HEAD + "pan p ^0;", HEAD + "pan p ^6;", HEAD + "step a ^0 0;", HEAD + "step a ^61 0;",
        HEAD + "step a 1 ^10;"};
    for (String text : first) {
      Kit.badSetup(2, text + "step b 1 1;");
    }
    String[] last = {"recipe 1 0 0 0;", "recipe 4 0 0 0;", "recipe 1 30 0 0;", "recipe 1 0 99 99;",
        "recipe 1 0 0 99;", "recipe 1 0 1 1;", HEAD + "pan p 1;", HEAD + "pan p 5;"};
    for (String text : last) {
      Kit.goodSetup(text + "step b 1 1;", 1);
    }
    Kit.goodSetup(HEAD + "step a 1 0;step b 60 9;", 2);
  }

  @Sentence(CODE_2)
  static void termsCode2NeverForAScript() {
    for (String command : new String[] {"pass 0;", "pass 201;", "pass 999;", "salt 0;", "salt 10;",
        "salt 999;", "water 0;", "water 10;", "cooks 0;", "cooks 5;", "time cut 0;",
        "time cut 61;", "time cut 999;"}) {
      RecipeScheduler x = Kit.fresh();
      Kit.due("runScript() of " + command, Kit.script(x, command), 0);
      Kit.due("errorCode()", x.errorCode(), 0);
      Kit.due("errorPosition()", x.errorPosition(), RecipeScheduler.NONE);
    }
  }

  @Sentence(CODE_3)
  static void termsCode3ForANameOf7Letters() {
    Kit.goodSetup(HEAD + "pan abcdef 1;step abcdef 1 1 in abcdef;step b 1 1 after abcdef;", 2);
    Kit.badSetup(3, HEAD + "pan ^abcdefg 1;step a 1 1;");
    Kit.badSetup(3, HEAD + "step ^abcdefg 1 1;");
    Kit.badSetup(3, HEAD + "pan abcdef 1;step a 1 1 in ^abcdefg;");
    Kit.badSetup(3, HEAD + "step abcdef 1 1;step b 1 1 after ^abcdefg;");
    Kit.badScript(3, "stop ^abcdefg;");
    Kit.badScript(3, "redo ^abcdefg;");
    Kit.badScript(3, "time ^abcdefg 1;");
  }

  @Sentence(CODE_3)
  static void termsCode3ForANewNameThatExists() {
    Kit.badSetup(3, HEAD + "pan p 1;pan ^p 1;");
    Kit.badSetup(3, HEAD + "step a 1 1;step ^a 1 1;");
    Kit.goodSetup(HEAD + "pan p 1;pan pp 1;step p 1 1;step pp 1 1;", 2);
    // The names of the recipe that is replaced do not count.
    RecipeScheduler x = Kit.fresh();
    Kit.due("load()", Kit.load(x, HEAD + "pan pot 1;step cut 1 1;"), 1);
    Kit.due("load()", Kit.load(x, HEAD + "pan pot 1;step cut 1 1;"), 1);
  }

  @Sentence(CODE_3)
  static void termsCode3ForANameThatDoesNotExistAhead() {
    Kit.badSetup(3, HEAD + "step a 1 1 in ^p;");
    Kit.badSetup(3, HEAD + "pan q 1;step a 1 1 in ^p;");
    Kit.badSetup(3, HEAD + "step a 1 1 after ^b;step b 1 1;");
    Kit.badSetup(3, HEAD + "step a 1 1 after ^a;");
    // Those of the present recipe do not exist for a new one.
    Kit.badSetup(3, HEAD + "step a 1 1 in ^pot;");
    Kit.badSetup(3, HEAD + "step a 1 1 after ^cut;");
    Kit.badScript(3, "stop ^a;");
    Kit.badScript(3, "stop ^pot;");
    Kit.badScript(3, "stop ^cutt;");
    Kit.badScript(3, "stop ^cu;");
  }

  @Sentence(CODE_4)
  static void termsCode4OnlyBehindTheSameAfter() {
    Kit.badSetup(4, FIVE + "step f 1 1 after a ^a;");
    Kit.badSetup(4, FIVE + "step f 1 1 after a b c ^a;");
    Kit.badSetup(4, FIVE + "step f 1 1 after a b c d ^c;");
    Kit.goodSetup(FIVE + "step f 1 1 after a b;step g 1 1 after b a;", 7);
  }

  @Sentence(CODE_5)
  static void termsCode5ForA5thPanType() {
    Kit.goodSetup(FOUR_PANS + "step a 1 1;", 1);
    Kit.badSetup(5, FOUR_PANS + "^pan e 1;step a 1 1;");
    Kit.badSetup(5, FOUR_PANS + "^pan");
    Kit.badSetup(1, FOUR_PANS + "^pa");
  }

  @Sentence(CODE_5)
  static void termsCode5ForA15thStep() {
    Kit.goodSetup(Kit.steps(14), 14);
    Kit.badSetup(5, Kit.steps(14) + "^step z 1 1;");
    Kit.badSetup(5, Kit.steps(14) + "^step");
    Kit.badSetup(1, Kit.steps(14) + "^ste");
  }

  @Sentence(CODE_5)
  static void termsCode5ForA5thNameBehindAfter() {
    Kit.goodSetup(FIVE + "step f 1 1 after b c d e;", 6);
    Kit.badSetup(5, FIVE + "step f 1 1 after b c d e ^a;");
    Kit.badSetup(5, FIVE + "step f 1 1 after b c d e ^a");
  }

  @Sentence(CODE_5)
  static void termsCode5ForA31stCommand() {
    Kit.due("runScript() of 29", Kit.script(Kit.fresh(), THIRTY.substring(8)), 29);
    Kit.due("runScript() of 30", Kit.script(Kit.fresh(), THIRTY), 30);
    for (String word : "pass salt water stop redo cooks time serve".split(" ")) {
      Kit.badScript(5, THIRTY + "^" + word);
    }
    Kit.badScript(5, THIRTY + " \n^cooks 1;cooks 1;");
  }
}
