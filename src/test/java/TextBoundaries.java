/** The term Texts: the input buffer, the tokens and the grammar. */
final class TextBoundaries {
  private static final String HEAD = "recipe 1 0 0 99;";
  private static final String INVALID =
      "A word of more than 8 letters and a number of more than 3 digits are invalid tokens.";
  private static final String GAPS =
      "Spaces (byte 32) and line feeds (byte 10) separate tokens and have no other meaning.";
  private static final String SETUP = "setup = \"recipe\" cooks hold lowest highest \";\" "
      + "{ \"pan\" name capacity \";\" } step \";\" { step \";\" }";
  private static final String STEP = "step = \"step\" name duration taste [ \"in\" name ] [ "
      + "\"hot\" ] [ \"alone\" ] [ \"after\" name { name } ]";
  private static final String COMMAND = "command = \"pass\" number | \"salt\" number | \"water\" "
      + "number | \"stop\" name | \"redo\" name | \"cooks\" number | \"time\" name number | "
      + "\"serve\"";
  private static final String CALLS = "The script commands call pass(), addSalt() with the number, "
      + "addSalt() with the negated number, stop(), redo(), setCooks(), setDuration() and serve().";

  private TextBoundaries() {}

  @Sentence("The input buffer holds at most 700 bytes.")
  static void termsABufferOf700Bytes() {
    Kit.Make full = Kit.NEW.fed("?".repeat(700));
    Kit.due("truncate(700)", full.made().truncate(700), 700);
    Kit.refuses(Kit.ARGUMENT, full, "truncate(701)", x -> x.truncate(701));
    Kit.refuses(Kit.STATE, full, "append()", x -> x.append(0, 0, 0, 0, 0));
    // The last byte is read too.
    Kit.badSetup(1, Kit.steps(14) + " ".repeat(699 - Kit.steps(14).length()) + "^?");
    Kit.goodSetup(Kit.steps(14) + " ".repeat(700 - Kit.steps(14).length()), 14);
  }

  @Sentence("It is empty at first.")
  static void termsTheBufferIsEmptyAtFirst() {
    Kit.due("append()", Kit.fresh().append(0, 0, 0, 0, 0), 20);
    Kit.due("truncate(0)", Kit.fresh().truncate(0), 0);
    Kit.refuses(Kit.ARGUMENT, Kit.NEW, "truncate(1)", x -> x.truncate(1));
    Kit.due("runScript() of nothing", Kit.fresh().runScript(), 0);
  }

  @Sentence("The tokens of a text are words, numbers and semicolons.")
  static void termsTokensMayStandSideBySide() {
    Kit.goodSetup("recipe1 0 0 99;pan p1;step a1 1in p hot;step b2 2;", 2);
    Kit.due("runScript()", Kit.script(Kit.fresh(), "pass1;stop cut;salt1;"), 3);
    Kit.badScript(1, "pass 1;^,pass 1;");
  }

  @Sentence("A word is a maximal run of the letters a to z.")
  static void termsAWordEndsAtWhatIsNoLetterFromAToZ() {
    RecipeScheduler x = Kit.loaded(HEAD + "step az 1 1;step za1 1;");
    Kit.due("names", Kit.name(x, 0) + " " + Kit.name(x, 1), "az za");
    Kit.badSetup(1, "^recip e 1 0 0 99;step a 1 1;");
    Kit.badSetup(1, "^recipex 1 0 0 99;step a 1 1;");
    Kit.badSetup(1, "^r");
    Kit.badSetup(1, HEAD + "step a^` 1 1;");
    Kit.badSetup(1, HEAD + "step a^{ 1 1;");
    Kit.badSetup(1, HEAD + "step a^A 1 1;");
    Kit.badSetup(1, HEAD + "step a ^b 1 1;");
  }

  @Sentence("A number is a maximal run of decimal digits.")
  static void termsANumberEndsAtWhatIsNoDigit() {
    RecipeScheduler x = Kit.loaded(HEAD + "step a 09 0;step b 10 9;step c 060 009;");
    Kit.due("duration(0)", x.duration(0), 9);
    Kit.due("duration(1)", x.duration(1), 10);
    Kit.due("duration(2)", x.duration(2), 60);
    Kit.due("stepTaste(2)", x.stepTaste(2), 9);
    Kit.badSetup(1, HEAD + "step a 1^/ 1;");
    Kit.badSetup(1, HEAD + "step a 1^: 1;");
    Kit.badSetup(1, HEAD + "step a 1^.0 1;");
    Kit.badSetup(1, HEAD + "step a 6 0 ^1;");
    Kit.badSetup(1, HEAD + "step a 1^\u00b2 1;");
  }

  @Sentence(GAPS)
  static void termsSpacesAndLineFeedsStandAnywhereBetweenTokens() {
    Kit.goodSetup(" \n recipe\n1\n0  0 99\n;\n\nstep a\n1 1\n; ", 1);
    Kit.goodSetup("recipe 1 0 0 99;step a 1 1;\n", 1);
    Kit.badSetup(1, "recipe 1 0 0 9 ^9;step a 1 1;");
    Kit.badSetup(1, HEAD + "^st ep a 1 1;");
    Kit.badSetup(1, HEAD + "^st\nep a 1 1;");
  }

  @Sentence(GAPS)
  static void termsNoOtherByteSeparatesTokens() {
    for (int gap : new int[] {9, 11, 13, 31, 33, 0, 127, 160}) {
      Kit.badSetup(1, "recipe^" + (char) gap + "1 0 0 99;step a 1 1;");
      Kit.badScript(1, "^" + (char) gap);
    }
  }

  @Sentence(INVALID)
  static void termsWordsOf8LettersAreValidAnd9AreNot() {
    // Where a name is due, a valid word that is too long for one is error 3.
    Kit.badSetup(3, HEAD + "step ^abcdefgh 1 1;");
    Kit.badSetup(1, HEAD + "step ^abcdefghi 1 1;");
    Kit.badSetup(3, HEAD + "pan ^zzzzzzzz 1;step a 1 1;");
    Kit.badSetup(1, HEAD + "pan ^zzzzzzzzz 1;step a 1 1;");
    Kit.badScript(3, "stop ^abcdefgh;");
    Kit.badScript(1, "stop ^abcdefghi;");
    Kit.badScript(1, "stop ^" + "a".repeat(600) + ";");
  }

  @Sentence(INVALID)
  static void termsNumbersOf3DigitsAreValidAnd4AreNot() {
    Kit.goodSetup("recipe 001 000 000 099;step a 060 009;", 1);
    Kit.badSetup(2, "recipe 1 ^999 0 99;step a 1 1;");
    Kit.badSetup(1, "recipe 1 ^1000 0 99;step a 1 1;");
    Kit.badSetup(1, "recipe 1 ^0000 0 99;step a 1 1;");
    Kit.badSetup(1, "recipe ^0001 0 0 99;step a 1 1;");
    Kit.due("runScript()", Kit.script(Kit.fresh(), "cooks 004;pass 999;"), 1);
    Kit.badScript(1, "cooks ^0004;");
    Kit.badScript(1, "pass ^" + "1".repeat(600) + ";");
  }

  @Sentence("Any other byte is an invalid token.")
  static void termsEveryByteThatIsNoTokenIsInvalid() {
    RecipeScheduler x = null;
    for (int value = 0; value < 256; value++) {
      boolean gap = value == ' ' || value == '\n';
      if (value % 40 == 0) {
        x = Kit.fresh();
      }
      Kit.feed(x, "pass 1;" + (char) value);
      if (gap) {
        Kit.due("runScript() with byte " + value, x.runScript(), 1);
      } else {
        Kit.throwsJust(Kit.ARGUMENT, "runScript() with byte " + value, x::runScript);
      }
      Kit.due("errorCode() with byte " + value, x.errorCode(), gap ? 0 : 1);
      Kit.due("errorPosition() with byte " + value, x.errorPosition(), gap ? -1 : 7);
    }
  }

  @Sentence("Any other byte is an invalid token.")
  static void termsAnInvalidByteInPlaceOfEachToken() {
    String[] texts = {"^?", "recipe ^?", "recipe 1 ^?", "recipe 1 0 ^?", "recipe 1 0 0 ^?",
        "recipe 1 0 0 9^?", HEAD + "^?", HEAD + "pan ^?", HEAD + "pan p ^?", HEAD + "pan p 1^?",
        HEAD + "step ^?", HEAD + "step a ^?", HEAD + "step a 1 ^?", HEAD + "step a 1 1^?",
        HEAD + "pan p 1;step a 1 1 in ^?", HEAD + "pan p 1;step a 1 1 in p^?",
        HEAD + "step a 1 1 hot^?", HEAD + "step a 1 1 alone^?", HEAD + "step a 1 1;^?",
        HEAD + "step a 1 1;step b 1 1 after ^?", HEAD + "step a 1 1;step b 1 1 after a^?"};
    for (String text : texts) {
      // Some of these stand next to the digits or to the letters.
      for (char other : new char[] {'?', '\t', '\u00e4', '\0', 'B', '/', ':', '`', '{'}) {
        Kit.badSetup(1, text.replace('?', other));
      }
    }
  }

  @Sentence(SETUP)
  static void termsASetupEndsBehindTheSemicolonOfAStep() {
    String text = "recipe 1 0 0 99;pan p 1;step a 1 1 in p hot alone;step b 1 1 after a;";
    int first = text.indexOf("step b");
    for (int length = 0; length < text.length(); length++) {
      String part = text.substring(0, length);
      if (length == first) {
        Kit.goodSetup(part, 1);
      } else {
        RecipeScheduler x = Kit.fresh();
        Kit.feed(x, part);
        Kit.throwsJust(Kit.ARGUMENT, "load() of \"" + part + "\"", x::load);
        Kit.due("errorPosition() of \"" + part + "\"", x.errorPosition() <= length, true);
      }
    }
    Kit.goodSetup(text, 2);
    Kit.badSetup(1, text + "^;");
    Kit.badSetup(1, text + "^a");
    Kit.badSetup(1, text + "^1");
    Kit.badSetup(1, text + "^recipe 1 0 0 99;");
  }

  @Sentence(SETUP)
  static void termsTheRecipeThenPansThenSteps() {
    Kit.goodSetup(HEAD + "step a 1 1;", 1);
    Kit.goodSetup(HEAD + "pan p 1;pan q 1;step a 1 1;step b 1 1;", 2);
    Kit.badSetup(1, "^;" + HEAD + "step a 1 1;");
    Kit.badSetup(1, "^1 0 0 99;step a 1 1;");
    Kit.badSetup(1, "^pan 1 0 0 99;step a 1 1;");
    Kit.badSetup(1, "^pan p 1;" + HEAD + "step a 1 1;");
    Kit.badSetup(1, HEAD + "step a 1 1;^pan p 1;");
    Kit.badSetup(1, HEAD + "^" + HEAD + "step a 1 1;");
    Kit.badSetup(1, "recipe ^; 1 0 0 99;step a 1 1;");
    Kit.badSetup(1, "recipe 1 0 0^;step a 1 1;");
    Kit.badSetup(1, "recipe 1 0 0 99 ^99;step a 1 1;");
    Kit.badSetup(1, HEAD + "pan p 1 ^step a 1 1;");
    Kit.badSetup(1, HEAD + "pan p ^p 1;step a 1 1;");
    Kit.badSetup(1, HEAD + "step a 1 1 ^step b 1 1;");
    Kit.badSetup(HEAD + "pan p 1;", 1, HEAD.length() + 8);
  }

  @Sentence(STEP)
  static void termsEachPartOfAStepIsThereOrNot() {
    String[] pans = {"", " in p"};
    String[] heats = {"", " hot"};
    String[] cooks = {"", " alone"};
    String[] afters = {"", " after a", " after a b", " after d c b a"};
    for (int i = 0; i < 32; i++) {
      String parts = pans[i % 2] + heats[i / 2 % 2] + cooks[i / 4 % 2] + afters[i / 8];
      RecipeScheduler x = Kit.loaded(HEAD + "pan o 1;pan p 1;step a 1 1;step b 1 1;step c 1 1;"
          + "step d 1 1;step e 2 3" + parts + ";");
      Kit.due("panType(4)", x.panType(4), i % 2 == 0 ? RecipeScheduler.NONE : 1);
      Kit.due("isHot(4)", x.isHot(4), i / 2 % 2 == 1);
      Kit.due("isUnattended(4)", x.isUnattended(4), i / 4 % 2 == 1);
      String due = afters[i / 8].replaceAll(" after| ", "");
      for (int j = 0; j <= due.length(); j++) {
        int one = j < due.length() ? due.charAt(j) - 'a' : RecipeScheduler.NONE;
        Kit.due("predecessor(4, " + j + ")", x.predecessor(4, j), one);
      }
    }
  }

  @Sentence(STEP)
  static void termsThePartsOfAStepHaveOneOrder() {
    String pan = HEAD + "pan p 1;step a 1 1;step b 2 3";
    Kit.badSetup(1, pan + " hot ^in p;");
    Kit.badSetup(1, pan + " alone ^in p;");
    Kit.badSetup(1, pan + " alone ^hot;");
    Kit.badSetup(1, pan + " in p hot alone ^hot;");
    Kit.badSetup(3, pan + " after a ^in p;");
    Kit.badSetup(1, pan + " in^;");
    Kit.badSetup(1, pan + " after^;");
    Kit.badSetup(1, pan + " ^cold;");
    Kit.badSetup(1, pan + " ^4;");
    Kit.badSetup(1, HEAD + "step a 1^;");
    Kit.badSetup(1, HEAD + "step a^;");
    Kit.badSetup(1, HEAD + "step^;");
    Kit.badSetup(1, HEAD + "step a ^hot;");
    Kit.badSetup(1, HEAD + "step a 1 ^hot;");
  }

  /** Words with one letter changed, left out or put in at one of the ends. */
  private static String[] likes(String word) {
    String begin = word.substring(0, word.length() - 1);
    String end = word.substring(1);
    return new String[] {"x" + end, begin + "x", end, begin, word + "x", "x" + word};
  }

  @Sentence({SETUP, STEP})
  static void termsEachWordOfASetupIsReadAsAWhole() {
    String[] texts = {"^recipe 1 0 0 99;", HEAD + "^pan p 1;", HEAD + "^step a 1 1;",
        HEAD + "pan p 1;step a 1 1 ^in p;", HEAD + "step a 1 1 ^hot;", HEAD + "step a 1 1 ^alone;",
        HEAD + "step a 1 1;step b 1 1 ^after a;"};
    for (String text : texts) {
      String word = text.replaceAll(".*\\^([a-z]+).*", "$1");
      for (String other : likes(word)) {
        Kit.badSetup(1, text.replace("^" + word, "^" + other));
      }
    }
  }

  @Sentence(COMMAND)
  static void termsEachWordOfAScriptIsReadAsAWhole() {
    for (String command : "pass salt water stop redo cooks time serve".split(" ")) {
      for (String other : likes(command)) {
        Kit.badScript(1, "pass 1;^" + other + " 1;");
      }
    }
  }

  @Sentence("script = { command \";\" }")
  static void termsAScriptHasAnyNumberOfCommandsEachWithASemicolon() {
    Kit.due("runScript() of none", Kit.script(Kit.fresh(), ""), 0);
    Kit.due("runScript() of a space", Kit.script(Kit.fresh(), " "), 0);
    Kit.due("runScript() of one", Kit.script(Kit.fresh(), "pass 1;"), 1);
    Kit.due("runScript() of two", Kit.script(Kit.fresh(), "pass 1;pass 1;"), 2);
    Kit.badScript("pass 1", 1, 6);
    Kit.badScript("pass 1;pass 1", 1, 13);
    Kit.badScript(1, "^;");
    Kit.badScript(1, "pass 1;^;");
    Kit.badScript(1, "pass 1 ^pass 1;");
  }

  @Sentence(COMMAND)
  static void termsEachCommandTakesWhatTheGrammarSays() {
    for (String word : new String[] {"pass", "salt", "water", "cooks"}) {
      Kit.due(word, Kit.script(Kit.fresh(), word + " 1;"), 1);
      Kit.badScript(1, word + "^;");
      Kit.badScript(1, word + " ^cut;");
      Kit.badScript(1, word + " 1 ^1;");
    }
    for (String word : new String[] {"stop", "redo"}) {
      Kit.due(word, Kit.script(Kit.fresh(), word + " cut;"), 0);
      Kit.badScript(1, word + "^;");
      Kit.badScript(1, word + " ^1;");
      Kit.badScript(1, word + " cut ^cut;");
      Kit.badScript(1, word + " cut ^1;");
    }
    Kit.due("time", Kit.script(Kit.fresh(), "time cut 1;"), 1);
    Kit.badScript(1, "time^;");
    Kit.badScript(1, "time cut^;");
    Kit.badScript(1, "time ^1 cut;");
    Kit.badScript(1, "time cut 1 ^1;");
    Kit.due("serve", Kit.script(Kit.FINISHED.made(), "serve;"), 1);
    Kit.badScript(1, "serve ^1;");
    Kit.badScript(1, "serve ^cut;");
    Kit.badScript(1, "^undo;");
    Kit.badScript(1, "^pas 1;");
    Kit.badScript(1, "^passes 1;");
  }

  @Sentence("The word \"alone\" marks an unattended step.")
  static void termsAlone() {
    RecipeScheduler x = Kit.loaded(HEAD + "step alone 9 1;step b 9 1 alone;step c 8 1;");
    Kit.due("isUnattended(0), by that name", x.isUnattended(0), false);
    Kit.due("isUnattended(1)", x.isUnattended(1), true);
    x.pass(1);
    Kit.due("summary", Kit.summary(x), "alone9 b9 c.");
  }

  @Sentence("The name behind \"in\" is the name of a pan type.")
  static void termsNoStepStandsBehindIn() {
    RecipeScheduler x = Kit.loaded(HEAD + "pan p 1;pan q 1;step a 1 1 in q;step p 1 1 in p;");
    Kit.due("panType(0)", x.panType(0), 1);
    Kit.due("panType(1)", x.panType(1), 0);
    Kit.badSetup(3, HEAD + "pan p 1;step a 1 1;step b 1 1 in ^a;");
    Kit.badSetup(3, HEAD + "step a 1 1 in ^p;");
    Kit.badSetup(3, HEAD + "pan pa 1;step a 1 1 in ^p;");
    Kit.badSetup(3, HEAD + "pan pa 1;step a 1 1 in ^pap;");
  }

  @Sentence("The names behind \"after\" are the names of the predecessors.")
  static void termsNoPanTypeStandsBehindAfter() {
    RecipeScheduler x = Kit.loaded(HEAD + "pan p 1;step a 1 1;step p 1 1 after a;"
        + "step c 1 1 after p a;");
    Kit.due("predecessor(2, 0)", x.predecessor(2, 0), 1);
    Kit.due("predecessor(2, 1)", x.predecessor(2, 1), 0);
    Kit.badSetup(3, HEAD + "pan p 1;step a 1 1;step b 1 1 after ^p;");
    Kit.badSetup(3, HEAD + "pan p 1;step a 1 1;step b 1 1 after a ^p;");
  }

  /** The command does what the call does, and is not executed where the call would throw. */
  private static void alike(Kit.Make make, String command, Kit.Act call) {
    RecipeScheduler by = make.made();
    Object answer = Kit.refused(by, call);
    RecipeScheduler x = make.made();
    Kit.due("runScript() of " + command, Kit.script(x, command),
        answer instanceof RuntimeException ? 0 : 1);
    Kit.due("errorCode() of " + command, x.errorCode(), 0);
    Kit.due("state after " + command, Kit.state(x), Kit.state(by));
  }

  @Sentence(CALLS)
  static void termsCommandsWithANumberCallTheirMethods() {
    for (Kit.Make make : new Kit.Make[] {Kit.NEW, Kit.FINISHED, Kit.SERVED,
        Kit.NEW.then(x -> x.pass(8), x -> x.addSalt(5)), Kit.atMinute(9990, Kit.NEW)}) {
      for (int number : new int[] {0, 1, 2, 4, 5, 9, 10, 60, 61, 200, 201, 999}) {
        alike(make, "pass " + number + ";", x -> x.pass(number));
        alike(make, "salt " + number + ";", x -> x.addSalt(number));
        alike(make, "water " + number + ";", x -> x.addSalt(-number));
        alike(make, "cooks " + number + ";", x -> x.setCooks(number));
        alike(make, "time fry " + number + ";", x -> x.setDuration(Kit.FRY, number));
      }
    }
  }

  @Sentence(CALLS)
  static void termsCommandsWithoutANumberCallTheirMethods() {
    String[] names = {"cut", "boil", "fry", "mix", "rest"};
    for (int minute = 0; minute <= 18; minute++) {
      Kit.Make make = Kit.atMinute(minute, Kit.NEW);
      alike(make, "serve;", RecipeScheduler::serve);
      for (int i = 0; i < 5; i++) {
        int step = i;
        alike(make, "stop " + names[i] + ";", x -> x.stop(step));
        alike(make, "redo " + names[i] + ";", x -> x.redo(step));
      }
    }
    alike(Kit.SERVED, "serve;", RecipeScheduler::serve);
    alike(Kit.SERVED, "redo rest;", x -> x.redo(Kit.REST));
    alike(Kit.SERVED, "stop rest;", x -> x.stop(Kit.REST));
  }
}
