/-! WORDS of the tables that the methods need: one list for all -/
def GT_0 : List Cond := [Cond.selects "DigestBox$Row" ⟨"DigestBox$Row", "becomeCopyOf", "(LDigestBox$Row;)V"⟩ ⟨"DigestBox$Row", "becomeCopyOf", "(LDigestBox$Row;)V"⟩,
  Cond.selects "DigestBox$Row" ⟨"DigestBox$Row", "append", "([BII)V"⟩ ⟨"DigestBox$Row", "append", "([BII)V"⟩,
  Cond.selects "DigestBox$Row" ⟨"DigestBox$Row", "makeRoom", "(I)V"⟩ ⟨"DigestBox$Row", "makeRoom", "(I)V"⟩,
  Cond.selects "DigestBox" ⟨"DigestBox", "blocksOf", "(I)I"⟩ ⟨"DigestBox", "blocksOf", "(I)I"⟩,
  Cond.selects "DigestBox$Row" ⟨"DigestBox$Row", "appendNumber", "(I)V"⟩ ⟨"DigestBox$Row", "appendNumber", "(I)V"⟩,
  Cond.selects "DigestBox$Row" ⟨"DigestBox$Row", "appendByte", "(I)V"⟩ ⟨"DigestBox$Row", "appendByte", "(I)V"⟩,
  Cond.selects "DigestBox$NarrowSha" ⟨"DigestBox$Sha", "begin", "()V"⟩ ⟨"DigestBox$Sha", "begin", "()V"⟩,
  Cond.selects "DigestBox$WideSha" ⟨"DigestBox$Sha", "begin", "()V"⟩ ⟨"DigestBox$Sha", "begin", "()V"⟩,
  Cond.selects "DigestBox$NarrowSha" ⟨"DigestBox$Sha", "resume", "([JI)V"⟩ ⟨"DigestBox$Sha", "resume", "([JI)V"⟩,
  Cond.selects "DigestBox$WideSha" ⟨"DigestBox$Sha", "resume", "([JI)V"⟩ ⟨"DigestBox$Sha", "resume", "([JI)V"⟩,
  Cond.selects "DigestBox$NarrowSha" ⟨"DigestBox$Sha", "take", "([BII)V"⟩ ⟨"DigestBox$Sha", "take", "([BII)V"⟩,
  Cond.selects "DigestBox$WideSha" ⟨"DigestBox$Sha", "take", "([BII)V"⟩ ⟨"DigestBox$Sha", "take", "([BII)V"⟩,
  Cond.selects "DigestBox$NarrowSha" ⟨"DigestBox$Sha", "goOverBlock", "()V"⟩ ⟨"DigestBox$Sha", "goOverBlock", "()V"⟩,
  Cond.selects "DigestBox$WideSha" ⟨"DigestBox$Sha", "goOverBlock", "()V"⟩ ⟨"DigestBox$Sha", "goOverBlock", "()V"⟩,
  Cond.selects "DigestBox$NarrowSha" ⟨"DigestBox$Sha", "becomeCopyOf", "(LDigestBox$Sha;)V"⟩ ⟨"DigestBox$Sha", "becomeCopyOf", "(LDigestBox$Sha;)V"⟩,
  Cond.selects "DigestBox$WideSha" ⟨"DigestBox$Sha", "becomeCopyOf", "(LDigestBox$Sha;)V"⟩ ⟨"DigestBox$Sha", "becomeCopyOf", "(LDigestBox$Sha;)V"⟩,
  Cond.selects "DigestBox" ⟨"DigestBox", "roomForResult", "(I)[B"⟩ ⟨"DigestBox", "roomForResult", "(I)[B"⟩,
  Cond.selects "DigestBox$NarrowSha" ⟨"DigestBox$Sha", "close", "([BI)V"⟩ ⟨"DigestBox$Sha", "close", "([BI)V"⟩,
  Cond.selects "DigestBox$WideSha" ⟨"DigestBox$Sha", "close", "([BI)V"⟩ ⟨"DigestBox$Sha", "close", "([BI)V"⟩,
  Cond.selects "DigestBox$NarrowSha" ⟨"DigestBox$Sha", "fillUpWithZeros", "()V"⟩ ⟨"DigestBox$Sha", "fillUpWithZeros", "()V"⟩,
  Cond.selects "DigestBox$WideSha" ⟨"DigestBox$Sha", "fillUpWithZeros", "()V"⟩ ⟨"DigestBox$Sha", "fillUpWithZeros", "()V"⟩,
  Cond.selects "DigestBox$NarrowSha" ⟨"DigestBox$Sha", "writeLengthInBits", "()V"⟩ ⟨"DigestBox$Sha", "writeLengthInBits", "()V"⟩,
  Cond.selects "DigestBox$WideSha" ⟨"DigestBox$Sha", "writeLengthInBits", "()V"⟩ ⟨"DigestBox$Sha", "writeLengthInBits", "()V"⟩,
  Cond.selects "DigestBox$NarrowSha" ⟨"DigestBox$Sha", "writeHash", "([BI)V"⟩ ⟨"DigestBox$Sha", "writeHash", "([BI)V"⟩,
  Cond.selects "DigestBox$WideSha" ⟨"DigestBox$Sha", "writeHash", "([BI)V"⟩ ⟨"DigestBox$Sha", "writeHash", "([BI)V"⟩,
  Cond.selects "DigestBox$Mac" ⟨"DigestBox$Mac", "setKey", "(LDigestBox$Row;)V"⟩ ⟨"DigestBox$Mac", "setKey", "(LDigestBox$Row;)V"⟩,
  Cond.selects "DigestBox$Mac" ⟨"DigestBox$Mac", "fillKeyBlock", "(LDigestBox$Row;)V"⟩ ⟨"DigestBox$Mac", "fillKeyBlock", "(LDigestBox$Row;)V"⟩,
  Cond.selects "DigestBox$Mac" ⟨"DigestBox$Mac", "startWith", "(I[J)V"⟩ ⟨"DigestBox$Mac", "startWith", "(I[J)V"⟩,
  Cond.selects "DigestBox$NarrowSha" ⟨"DigestBox$Sha", "takeByte", "(I)V"⟩ ⟨"DigestBox$Sha", "takeByte", "(I)V"⟩,
  Cond.selects "DigestBox$WideSha" ⟨"DigestBox$Sha", "takeByte", "(I)V"⟩ ⟨"DigestBox$Sha", "takeByte", "(I)V"⟩,
  Cond.selects "DigestBox$Mac" ⟨"DigestBox$Mac", "beginText", "()V"⟩ ⟨"DigestBox$Mac", "beginText", "()V"⟩,
  Cond.selects "DigestBox$Mac" ⟨"DigestBox$Mac", "closeText", "([BI)V"⟩ ⟨"DigestBox$Mac", "closeText", "([BI)V"⟩,
  Cond.selects "DigestBox" ⟨"DigestBox", "checkExpandedLength", "(II)V"⟩ ⟨"DigestBox", "checkExpandedLength", "(II)V"⟩,
  Cond.selects "DigestBox" ⟨"DigestBox", "expandKey", "(LDigestBox$Mac;ILDigestBox$Row;)V"⟩ ⟨"DigestBox", "expandKey", "(LDigestBox$Mac;ILDigestBox$Row;)V"⟩,
  Cond.selects "DigestBox" ⟨"DigestBox", "checkLabelLength", "(I)V"⟩ ⟨"DigestBox", "checkLabelLength", "(I)V"⟩,
  Cond.selects "DigestBox" ⟨"DigestBox", "writeLabelInfo", "(II)V"⟩ ⟨"DigestBox", "writeLabelInfo", "(II)V"⟩,
  Cond.selects "DigestBoxModel" ⟨"DigestBoxModel", "root", "(II)J"⟩ ⟨"DigestBoxModel", "root", "(II)J"⟩,
  Cond.selects "DigestBoxModel" ⟨"DigestBoxModel", "fits", "(JJII)Z"⟩ ⟨"DigestBoxModel", "fits", "(JJII)Z"⟩,
  Cond.selects "DigestBoxModel" ⟨"DigestBoxModel", "times", "(JJ)V"⟩ ⟨"DigestBoxModel", "times", "(JJ)V"⟩,
  Cond.selects "DigestBoxModel" ⟨"DigestBoxModel", "fail", "(I)I"⟩ ⟨"DigestBoxModel", "fail", "(I)I"⟩]
def GT_1 : List Cond := [Cond.selects "DigestBoxModel" ⟨"DigestBoxModel", "hash", "(I[BII)V"⟩ ⟨"DigestBoxModel", "hash", "(I[BII)V"⟩,
  Cond.selects "DigestBoxModel" ⟨"DigestBoxModel", "over", "()V"⟩ ⟨"DigestBoxModel", "over", "()V"⟩,
  Cond.selects "DigestBoxModel" ⟨"DigestBoxModel", "shifted", "(JIII)J"⟩ ⟨"DigestBoxModel", "shifted", "(JIII)J"⟩,
  Cond.selects "DigestBoxModel" ⟨"DigestBoxModel", "turned", "(JI)J"⟩ ⟨"DigestBoxModel", "turned", "(JI)J"⟩,
  Cond.selects "DigestBoxModel" ⟨"DigestBoxModel", "fit", "(J)J"⟩ ⟨"DigestBoxModel", "fit", "(J)J"⟩,
  Cond.selects "DigestBoxModel" ⟨"DigestBoxModel", "mixed", "(JIII)J"⟩ ⟨"DigestBoxModel", "mixed", "(JIII)J"⟩,
  Cond.selects "DigestBoxModel" ⟨"DigestBoxModel", "prepare", "(I)V"⟩ ⟨"DigestBoxModel", "prepare", "(I)V"⟩,
  Cond.selects "DigestBoxModel" ⟨"DigestBoxModel", "keyed", "(II)V"⟩ ⟨"DigestBoxModel", "keyed", "(II)V"⟩,
  Cond.selects "DigestBoxModel" ⟨"DigestBoxModel", "expanded", "(II)I"⟩ ⟨"DigestBoxModel", "expanded", "(II)I"⟩,
  Cond.initialized "DigestBoxLaw",
  Cond.initialized "DigestBox",
  Cond.initialized "DigestBox$Row",
  Cond.initialized "DigestBox$Sha",
  Cond.initialized "DigestBox$NarrowSha",
  Cond.initialized "java/lang/System",
  Cond.initialized "DigestBox$WideSha",
  Cond.initialized "DigestBox$Mac",
  Cond.initialized "DigestBoxModel",
  Cond.initialized "java/lang/Throwable",
  Cond.initialized "java/lang/Exception",
  Cond.initialized "java/lang/RuntimeException",
  Cond.initialized "java/lang/IllegalStateException",
  Cond.initialized "java/lang/Math",
  Cond.initialized "java/util/Arrays",
  Cond.initialized "java/lang/IllegalArgumentException",
  Cond.initialized "java/util/NoSuchElementException",
  Cond.initialized "java/lang/IndexOutOfBoundsException",
  Cond.classLink "DigestBoxLaw" 8 "DigestBox",
  Cond.instantiable "DigestBox" 6,
  Cond.methodLink "DigestBoxLaw" 50 ⟨"DigestBox", "<init>", "()V"⟩,
  Cond.instanceMethod ⟨"DigestBox", "<init>", "()V"⟩,
  Cond.code ⟨"DigestBox", "<init>", "()V"⟩ prog_1_method_1_code 1 none,
  Cond.methodLink "DigestBox" 1 ⟨"java/lang/Object", "<init>", "()V"⟩,
  Cond.instanceMethod ⟨"java/lang/Object", "<init>", "()V"⟩,
  Cond.code ⟨"java/lang/Object", "<init>", "()V"⟩ object_method_1_code 1 none,
  Cond.classLink "DigestBox" 7 "DigestBox$Row",
  Cond.instantiable "DigestBox$Row" 2,
  Cond.instanceMethod ⟨"DigestBox$Row", "<init>", "()V"⟩,
  Cond.code ⟨"DigestBox$Row", "<init>", "()V"⟩ prog_4_method_1_code 1 none,
  Cond.methodLink "DigestBox$Row" 3 ⟨"java/lang/Object", "<init>", "()V"⟩]
def GT_2 : List Cond := [Cond.fieldLink "DigestBox$Row" 9 "DigestBox$Row" "bytes" "[B",
  Cond.fieldLink "DigestBox$Row" 27 "DigestBox$Row" "length" "I",
  Cond.lays "DigestBox$Row" "DigestBox$Row" "bytes" "[B",
  Cond.lays "DigestBox$Row" "DigestBox$Row" "length" "I",
  Cond.arrayClass .byte,
  Cond.classLink "DigestBox" 25 "DigestBox$Sha",
  Cond.classLink "DigestBox" 27 "DigestBox$NarrowSha",
  Cond.instantiable "DigestBox$NarrowSha" 9,
  Cond.fieldLink "DigestBox" 29 "DigestBox" "SHA_256_START" "[J",
  Cond.methodLink "DigestBox" 33 ⟨"DigestBox$NarrowSha", "<init>", "([JI)V"⟩,
  Cond.instanceMethod ⟨"DigestBox$NarrowSha", "<init>", "([JI)V"⟩,
  Cond.code ⟨"DigestBox$NarrowSha", "<init>", "([JI)V"⟩ prog_3_method_1_code 3 none,
  Cond.methodLink "DigestBox$NarrowSha" 1 ⟨"DigestBox$Sha", "<init>", "([JII)V"⟩,
  Cond.instanceMethod ⟨"DigestBox$Sha", "<init>", "([JII)V"⟩,
  Cond.code ⟨"DigestBox$Sha", "<init>", "([JII)V"⟩ prog_5_method_1_code 4 none,
  Cond.methodLink "DigestBox$Sha" 1 ⟨"java/lang/Object", "<init>", "()V"⟩,
  Cond.methodLink "DigestBox$Sha" 27 ⟨"java/lang/System", "arraycopy", "(Ljava/lang/Object;ILjava/lang/Object;II)V"⟩,
  Cond.static ⟨"java/lang/System", "arraycopy", "(Ljava/lang/Object;ILjava/lang/Object;II)V"⟩,
  Cond.native ⟨"java/lang/System", "arraycopy", "(Ljava/lang/Object;ILjava/lang/Object;II)V"⟩,
  Cond.fieldLink "DigestBox$NarrowSha" 7 "DigestBox$NarrowSha" "schedule" "[I",
  Cond.fieldLink "DigestBox$Sha" 7 "DigestBox$Sha" "state" "[J",
  Cond.fieldLink "DigestBox$NarrowSha" 13 "DigestBox$NarrowSha" "state" "[J",
  Cond.sameField "DigestBox$NarrowSha" "DigestBox$Sha" "state" "[J",
  Cond.fieldLink "DigestBox$WideSha" 13 "DigestBox$WideSha" "state" "[J",
  Cond.sameField "DigestBox$WideSha" "DigestBox$Sha" "state" "[J",
  Cond.fieldLink "DigestBox$Mac" 85 "DigestBox$Sha" "state" "[J",
  Cond.fieldLink "DigestBox$Mac" 20 "DigestBox$Sha" "block" "[B",
  Cond.fieldLink "DigestBox$Sha" 23 "DigestBox$Sha" "block" "[B",
  Cond.fieldLink "DigestBox$NarrowSha" 27 "DigestBox$NarrowSha" "block" "[B",
  Cond.sameField "DigestBox$NarrowSha" "DigestBox$Sha" "block" "[B",
  Cond.fieldLink "DigestBox$WideSha" 28 "DigestBox$WideSha" "block" "[B",
  Cond.sameField "DigestBox$WideSha" "DigestBox$Sha" "block" "[B",
  Cond.fieldLink "DigestBox$Sha" 20 "DigestBox$Sha" "hashBytes" "I",
  Cond.fieldLink "DigestBox$Mac" 29 "DigestBox$Sha" "hashBytes" "I",
  Cond.fieldLink "DigestBox" 98 "DigestBox$Sha" "hashBytes" "I",
  Cond.fieldLink "DigestBox$Sha" 13 "DigestBox$Sha" "start" "[J",
  Cond.fieldLink "DigestBox$Sha" 16 "DigestBox$Sha" "wordBytes" "I",
  Cond.fieldLink "DigestBox$Sha" 37 "DigestBox$Sha" "filled" "I",
  Cond.fieldLink "DigestBox$Sha" 40 "DigestBox$Sha" "total" "J",
  Cond.fieldLink "DigestBox$Sha" 53 "DigestBox$Sha" "blocks" "I"]
def GT_3 : List Cond := [Cond.laysFinal "DigestBox$NarrowSha" "DigestBox$NarrowSha" "schedule" "[I",
  Cond.laysFinal "DigestBox$NarrowSha" "DigestBox$Sha" "state" "[J",
  Cond.laysFinal "DigestBox$NarrowSha" "DigestBox$Sha" "block" "[B",
  Cond.laysFinal "DigestBox$NarrowSha" "DigestBox$Sha" "hashBytes" "I",
  Cond.laysFinal "DigestBox$NarrowSha" "DigestBox$Sha" "start" "[J",
  Cond.laysFinal "DigestBox$NarrowSha" "DigestBox$Sha" "wordBytes" "I",
  Cond.lays "DigestBox$NarrowSha" "DigestBox$Sha" "filled" "I",
  Cond.lays "DigestBox$NarrowSha" "DigestBox$Sha" "total" "J",
  Cond.lays "DigestBox$NarrowSha" "DigestBox$Sha" "blocks" "I",
  Cond.arrayClass .long,
  Cond.arrayClass .int,
  Cond.classLink "DigestBox" 36 "DigestBox$WideSha",
  Cond.instantiable "DigestBox$WideSha" 9,
  Cond.fieldLink "DigestBox" 38 "DigestBox" "SHA_384_START" "[J",
  Cond.methodLink "DigestBox" 41 ⟨"DigestBox$WideSha", "<init>", "([JI)V"⟩,
  Cond.instanceMethod ⟨"DigestBox$WideSha", "<init>", "([JI)V"⟩,
  Cond.code ⟨"DigestBox$WideSha", "<init>", "([JI)V"⟩ prog_6_method_1_code 3 none,
  Cond.methodLink "DigestBox$WideSha" 1 ⟨"DigestBox$Sha", "<init>", "([JII)V"⟩,
  Cond.fieldLink "DigestBox$WideSha" 7 "DigestBox$WideSha" "schedule" "[J",
  Cond.laysFinal "DigestBox$WideSha" "DigestBox$WideSha" "schedule" "[J",
  Cond.laysFinal "DigestBox$WideSha" "DigestBox$Sha" "state" "[J",
  Cond.laysFinal "DigestBox$WideSha" "DigestBox$Sha" "block" "[B",
  Cond.laysFinal "DigestBox$WideSha" "DigestBox$Sha" "hashBytes" "I",
  Cond.laysFinal "DigestBox$WideSha" "DigestBox$Sha" "start" "[J",
  Cond.laysFinal "DigestBox$WideSha" "DigestBox$Sha" "wordBytes" "I",
  Cond.lays "DigestBox$WideSha" "DigestBox$Sha" "filled" "I",
  Cond.lays "DigestBox$WideSha" "DigestBox$Sha" "total" "J",
  Cond.lays "DigestBox$WideSha" "DigestBox$Sha" "blocks" "I",
  Cond.fieldLink "DigestBox" 42 "DigestBox" "SHA_512_START" "[J",
  Cond.classLink "DigestBox" 49 "DigestBox$Mac",
  Cond.instantiable "DigestBox$Mac" 6,
  Cond.methodLink "DigestBox" 51 ⟨"DigestBox$Mac", "<init>", "(LDigestBox$Sha;)V"⟩,
  Cond.instanceMethod ⟨"DigestBox$Mac", "<init>", "(LDigestBox$Sha;)V"⟩,
  Cond.code ⟨"DigestBox$Mac", "<init>", "(LDigestBox$Sha;)V"⟩ prog_2_method_1_code 2 none,
  Cond.methodLink "DigestBox$Mac" 1 ⟨"java/lang/Object", "<init>", "()V"⟩,
  Cond.fieldLink "DigestBox$Mac" 16 "DigestBox$Mac" "sha" "LDigestBox$Sha;",
  Cond.fieldLink "DigestBox$Mac" 26 "DigestBox$Mac" "keyBlock" "[B",
  Cond.fieldLink "DigestBox$Mac" 33 "DigestBox$Mac" "innerHash" "[B",
  Cond.fieldLink "DigestBox$Mac" 7 "DigestBox$Mac" "innerStart" "[J",
  Cond.fieldLink "DigestBox$Mac" 13 "DigestBox$Mac" "outerStart" "[J"]
def GT_4 : List Cond := [Cond.fieldLink "DigestBox$Mac" 47 "DigestBox$Mac" "keyBlocks" "I",
  Cond.laysFinal "DigestBox$Mac" "DigestBox$Mac" "sha" "LDigestBox$Sha;",
  Cond.laysFinal "DigestBox$Mac" "DigestBox$Mac" "keyBlock" "[B",
  Cond.laysFinal "DigestBox$Mac" "DigestBox$Mac" "innerHash" "[B",
  Cond.laysFinal "DigestBox$Mac" "DigestBox$Mac" "innerStart" "[J",
  Cond.laysFinal "DigestBox$Mac" "DigestBox$Mac" "outerStart" "[J",
  Cond.lays "DigestBox$Mac" "DigestBox$Mac" "keyBlocks" "I",
  Cond.fieldLink "DigestBox" 10 "DigestBox" "tape" "LDigestBox$Row;",
  Cond.fieldLink "DigestBox" 16 "DigestBox" "secret" "LDigestBox$Row;",
  Cond.fieldLink "DigestBox" 19 "DigestBox" "outcome" "LDigestBox$Row;",
  Cond.fieldLink "DigestBox" 22 "DigestBox" "labelInfo" "LDigestBox$Row;",
  Cond.fieldLink "DigestBox" 45 "DigestBox" "runs" "[LDigestBox$Sha;",
  Cond.fieldLink "DigestBox" 54 "DigestBox" "macs" "[LDigestBox$Mac;",
  Cond.laysFinal "DigestBox" "DigestBox" "tape" "LDigestBox$Row;",
  Cond.laysFinal "DigestBox" "DigestBox" "secret" "LDigestBox$Row;",
  Cond.laysFinal "DigestBox" "DigestBox" "outcome" "LDigestBox$Row;",
  Cond.laysFinal "DigestBox" "DigestBox" "labelInfo" "LDigestBox$Row;",
  Cond.laysFinal "DigestBox" "DigestBox" "runs" "[LDigestBox$Sha;",
  Cond.laysFinal "DigestBox" "DigestBox" "macs" "[LDigestBox$Mac;",
  Cond.methodLink "DigestBoxLaw" 78 ⟨"DigestBox", "key", "()I"⟩,
  Cond.instanceMethod ⟨"DigestBox", "key", "()I"⟩,
  Cond.selects "DigestBox" ⟨"DigestBox", "key", "()I"⟩ ⟨"DigestBox", "key", "()I"⟩,
  Cond.code ⟨"DigestBox", "key", "()I"⟩ prog_1_method_7_code 1 (some .int),
  Cond.instanceMethod ⟨"DigestBox$Row", "becomeCopyOf", "(LDigestBox$Row;)V"⟩,
  Cond.code ⟨"DigestBox$Row", "becomeCopyOf", "(LDigestBox$Row;)V"⟩ prog_4_method_6_code 2 none,
  Cond.methodLink "DigestBox$Row" 44 ⟨"DigestBox$Row", "append", "([BII)V"⟩,
  Cond.instanceMethod ⟨"DigestBox$Row", "append", "([BII)V"⟩,
  Cond.code ⟨"DigestBox$Row", "append", "([BII)V"⟩ prog_4_method_5_code 4 none,
  Cond.methodLink "DigestBox$Row" 31 ⟨"DigestBox$Row", "makeRoom", "(I)V"⟩,
  Cond.instanceMethod ⟨"DigestBox$Row", "makeRoom", "(I)V"⟩,
  Cond.code ⟨"DigestBox$Row", "makeRoom", "(I)V"⟩ prog_4_method_2_code 2 none,
  Cond.methodLink "DigestBox$Row" 15 ⟨"java/lang/Math", "max", "(II)I"⟩,
  Cond.static ⟨"java/lang/Math", "max", "(II)I"⟩,
  Cond.code ⟨"java/lang/Math", "max", "(II)I"⟩ prog_17_method_65_code 2 (some .int),
  Cond.methodLink "DigestBox$Row" 21 ⟨"java/util/Arrays", "copyOf", "([BI)[B"⟩,
  Cond.static ⟨"java/util/Arrays", "copyOf", "([BI)[B"⟩,
  Cond.code ⟨"java/util/Arrays", "copyOf", "([BI)[B"⟩ prog_25_method_121_code 3 (some (.array .byte)),
  Cond.native ⟨"java/lang/Object", "clone", "()Ljava/lang/Object;"⟩,
  Cond.instanceMethod ⟨"java/lang/Object", "clone", "()Ljava/lang/Object;"⟩,
  Cond.classLink "java/util/Arrays" 311 "[B"]
def GT_5 : List Cond := [Cond.methodLink "java/util/Arrays" 304 ⟨"java/lang/Math", "min", "(II)I"⟩,
  Cond.static ⟨"java/lang/Math", "min", "(II)I"⟩,
  Cond.code ⟨"java/lang/Math", "min", "(II)I"⟩ prog_17_method_69_code 2 (some .int),
  Cond.methodLink "java/util/Arrays" 150 ⟨"java/lang/System", "arraycopy", "(Ljava/lang/Object;ILjava/lang/Object;II)V"⟩,
  Cond.methodLink "DigestBox$Row" 38 ⟨"java/lang/System", "arraycopy", "(Ljava/lang/Object;ILjava/lang/Object;II)V"⟩,
  Cond.methodLink "DigestBoxLaw" 82 ⟨"DigestBox", "keep", "()I"⟩,
  Cond.instanceMethod ⟨"DigestBox", "keep", "()I"⟩,
  Cond.selects "DigestBox" ⟨"DigestBox", "keep", "()I"⟩ ⟨"DigestBox", "keep", "()I"⟩,
  Cond.code ⟨"DigestBox", "keep", "()I"⟩ prog_1_method_8_code 1 (some .int),
  Cond.methodLink "DigestBoxLaw" 100 ⟨"DigestBox", "count", "(I)I"⟩,
  Cond.instanceMethod ⟨"DigestBox", "count", "(I)I"⟩,
  Cond.selects "DigestBox" ⟨"DigestBox", "count", "(I)I"⟩ ⟨"DigestBox", "count", "(I)I"⟩,
  Cond.code ⟨"DigestBox", "count", "(I)I"⟩ prog_1_method_13_code 2 (some .int),
  Cond.methodLink "DigestBox" 138 ⟨"DigestBox", "blocksOf", "(I)I"⟩,
  Cond.instanceMethod ⟨"DigestBox", "blocksOf", "(I)I"⟩,
  Cond.code ⟨"DigestBox", "blocksOf", "(I)I"⟩ prog_1_method_17_code 2 (some .int),
  Cond.methodLink "DigestBoxLaw" 54 ⟨"DigestBoxLaw", "feed", "(LDigestBox;IIIII[J)I"⟩,
  Cond.static ⟨"DigestBoxLaw", "feed", "(LDigestBox;IIIII[J)I"⟩,
  Cond.codeWith ⟨"DigestBoxLaw", "feed", "(LDigestBox;IIIII[J)I"⟩ method_3_code 8 (some .int) [(0, 16, 19, 13)],
  Cond.classLink "DigestBoxLaw" 13 "java/lang/IllegalStateException",
  Cond.methodLink "DigestBoxLaw" 7 ⟨"DigestBox", "feed", "(IIIII)I"⟩,
  Cond.instanceMethod ⟨"DigestBox", "feed", "(IIIII)I"⟩,
  Cond.selects "DigestBox" ⟨"DigestBox", "feed", "(IIIII)I"⟩ ⟨"DigestBox", "feed", "(IIIII)I"⟩,
  Cond.code ⟨"DigestBox", "feed", "(IIIII)I"⟩ prog_1_method_2_code 6 (some .int),
  Cond.constant "DigestBox" 62 65516,
  Cond.classLink "DigestBox" 63 "java/lang/IllegalStateException",
  Cond.instantiable "java/lang/IllegalStateException" 6,
  Cond.selects "java/lang/IllegalStateException" ⟨"java/lang/Throwable", "fillInStackTrace", "(I)Ljava/lang/Throwable;"⟩ ⟨"java/lang/Throwable", "fillInStackTrace", "(I)Ljava/lang/Throwable;"⟩,
  Cond.selects "java/lang/IllegalStateException" ⟨"java/lang/Throwable", "fillInStackTrace", "()Ljava/lang/Throwable;"⟩ ⟨"java/lang/Throwable", "fillInStackTrace", "()Ljava/lang/Throwable;"⟩,
  Cond.lays "java/lang/IllegalStateException" "java/lang/Throwable" "cause" "Ljava/lang/Throwable;",
  Cond.lays "java/lang/Throwable" "java/lang/Throwable" "cause" "Ljava/lang/Throwable;",
  Cond.lays "java/lang/IllegalStateException" "java/lang/Throwable" "stackTrace" "[Ljava/lang/StackTraceElement;",
  Cond.lays "java/lang/Throwable" "java/lang/Throwable" "stackTrace" "[Ljava/lang/StackTraceElement;",
  Cond.lays "java/lang/IllegalStateException" "java/lang/Throwable" "suppressedExceptions" "Ljava/util/List;",
  Cond.lays "java/lang/Throwable" "java/lang/Throwable" "suppressedExceptions" "Ljava/util/List;",
  Cond.lays "java/lang/IllegalStateException" "java/lang/Throwable" "detailMessage" "Ljava/lang/String;",
  Cond.lays "java/lang/Throwable" "java/lang/Throwable" "detailMessage" "Ljava/lang/String;",
  Cond.lays "java/lang/IllegalStateException" "java/lang/Throwable" "backtrace" "Ljava/lang/Object;",
  Cond.lays "java/lang/Throwable" "java/lang/Throwable" "backtrace" "Ljava/lang/Object;",
  Cond.fieldLink "java/lang/Throwable" 198 "java/lang/Throwable" "backtrace" "Ljava/lang/Object;"]
def GT_6 : List Cond := [Cond.instanceMethod ⟨"java/lang/Throwable", "<init>", "()V"⟩,
  Cond.code ⟨"java/lang/Throwable", "<init>", "()V"⟩ prog_24_method_1_code 1 none,
  Cond.methodLink "java/lang/Throwable" 1 ⟨"java/lang/Object", "<init>", "()V"⟩,
  Cond.fieldLink "java/lang/Throwable" 13 "java/lang/Throwable" "UNASSIGNED_STACK" "[Ljava/lang/StackTraceElement;",
  Cond.fieldLink "java/lang/Throwable" 20 "java/lang/Throwable" "SUPPRESSED_SENTINEL" "Ljava/util/List;",
  Cond.methodLink "java/lang/Throwable" 27 ⟨"java/lang/Throwable", "fillInStackTrace", "()Ljava/lang/Throwable;"⟩,
  Cond.instanceMethod ⟨"java/lang/Throwable", "fillInStackTrace", "()Ljava/lang/Throwable;"⟩,
  Cond.sameMethod "java/lang/Throwable" "java/lang/Throwable" "fillInStackTrace" "()Ljava/lang/Throwable;",
  Cond.selects "java/lang/IllegalArgumentException" ⟨"java/lang/Throwable", "fillInStackTrace", "()Ljava/lang/Throwable;"⟩ ⟨"java/lang/Throwable", "fillInStackTrace", "()Ljava/lang/Throwable;"⟩,
  Cond.selects "java/lang/IndexOutOfBoundsException" ⟨"java/lang/Throwable", "fillInStackTrace", "()Ljava/lang/Throwable;"⟩ ⟨"java/lang/Throwable", "fillInStackTrace", "()Ljava/lang/Throwable;"⟩,
  Cond.selects "java/util/NoSuchElementException" ⟨"java/lang/Throwable", "fillInStackTrace", "()Ljava/lang/Throwable;"⟩ ⟨"java/lang/Throwable", "fillInStackTrace", "()Ljava/lang/Throwable;"⟩,
  Cond.codeSync ⟨"java/lang/Throwable", "fillInStackTrace", "()Ljava/lang/Throwable;"⟩ prog_24_method_18_code 1 (some (.object "java/lang/Throwable")),
  Cond.methodLink "java/lang/Throwable" 202 ⟨"java/lang/Throwable", "fillInStackTrace", "(I)Ljava/lang/Throwable;"⟩,
  Cond.instanceMethod ⟨"java/lang/Throwable", "fillInStackTrace", "(I)Ljava/lang/Throwable;"⟩,
  Cond.instantiable "java/lang/Throwable" 6,
  Cond.native ⟨"java/lang/Throwable", "fillInStackTrace", "(I)Ljava/lang/Throwable;"⟩,
  Cond.methodLink "DigestBox" 65 ⟨"java/lang/IllegalStateException", "<init>", "()V"⟩,
  Cond.instanceMethod ⟨"java/lang/IllegalStateException", "<init>", "()V"⟩,
  Cond.code ⟨"java/lang/IllegalStateException", "<init>", "()V"⟩ prog_14_method_1_code 1 none,
  Cond.methodLink "java/lang/IllegalStateException" 1 ⟨"java/lang/RuntimeException", "<init>", "()V"⟩,
  Cond.instanceMethod ⟨"java/lang/RuntimeException", "<init>", "()V"⟩,
  Cond.code ⟨"java/lang/RuntimeException", "<init>", "()V"⟩ prog_18_method_1_code 1 none,
  Cond.methodLink "java/lang/RuntimeException" 1 ⟨"java/lang/Exception", "<init>", "()V"⟩,
  Cond.instanceMethod ⟨"java/lang/Exception", "<init>", "()V"⟩,
  Cond.code ⟨"java/lang/Exception", "<init>", "()V"⟩ prog_12_method_1_code 1 none,
  Cond.methodLink "java/lang/Exception" 1 ⟨"java/lang/Throwable", "<init>", "()V"⟩,
  Cond.fieldLink "java/lang/Throwable" 31 "java/lang/Throwable" "detailMessage" "Ljava/lang/String;",
  Cond.fieldLink "java/lang/Throwable" 7 "java/lang/Throwable" "cause" "Ljava/lang/Throwable;",
  Cond.fieldLink "java/lang/Throwable" 17 "java/lang/Throwable" "stackTrace" "[Ljava/lang/StackTraceElement;",
  Cond.fieldLink "java/lang/Throwable" 24 "java/lang/Throwable" "suppressedExceptions" "Ljava/util/List;",
  Cond.lays "java/lang/IllegalStateException" "java/lang/Throwable" "depth" "I",
  Cond.instanceMethod ⟨"DigestBox$Row", "appendNumber", "(I)V"⟩,
  Cond.code ⟨"DigestBox$Row", "appendNumber", "(I)V"⟩ prog_4_method_4_code 2 none,
  Cond.methodLink "DigestBox$Row" 35 ⟨"DigestBox$Row", "appendByte", "(I)V"⟩,
  Cond.instanceMethod ⟨"DigestBox$Row", "appendByte", "(I)V"⟩,
  Cond.code ⟨"DigestBox$Row", "appendByte", "(I)V"⟩ prog_4_method_3_code 2 none,
  Cond.methodLink "DigestBoxLaw" 64 ⟨"DigestBoxLaw", "end", "(LDigestBox;I[J)I"⟩,
  Cond.static ⟨"DigestBoxLaw", "end", "(LDigestBox;I[J)I"⟩,
  Cond.codeWith ⟨"DigestBoxLaw", "end", "(LDigestBox;I[J)I"⟩ method_4_code 4 (some .int) [(0, 9, 12, 19)],
  Cond.classLink "DigestBoxLaw" 19 "java/lang/IllegalArgumentException"]
def GT_7 : List Cond := [Cond.methodLink "DigestBoxLaw" 15 ⟨"DigestBox", "end", "(I)I"⟩,
  Cond.instanceMethod ⟨"DigestBox", "end", "(I)I"⟩,
  Cond.selects "DigestBox" ⟨"DigestBox", "end", "(I)I"⟩ ⟨"DigestBox", "end", "(I)I"⟩,
  Cond.code ⟨"DigestBox", "end", "(I)I"⟩ prog_1_method_3_code 2 (some .int),
  Cond.classLink "DigestBox" 70 "java/lang/IllegalArgumentException",
  Cond.instantiable "java/lang/IllegalArgumentException" 6,
  Cond.selects "java/lang/IllegalArgumentException" ⟨"java/lang/Throwable", "fillInStackTrace", "(I)Ljava/lang/Throwable;"⟩ ⟨"java/lang/Throwable", "fillInStackTrace", "(I)Ljava/lang/Throwable;"⟩,
  Cond.lays "java/lang/IllegalArgumentException" "java/lang/Throwable" "cause" "Ljava/lang/Throwable;",
  Cond.lays "java/lang/IllegalArgumentException" "java/lang/Throwable" "stackTrace" "[Ljava/lang/StackTraceElement;",
  Cond.lays "java/lang/IllegalArgumentException" "java/lang/Throwable" "suppressedExceptions" "Ljava/util/List;",
  Cond.lays "java/lang/IllegalArgumentException" "java/lang/Throwable" "detailMessage" "Ljava/lang/String;",
  Cond.lays "java/lang/IllegalArgumentException" "java/lang/Throwable" "backtrace" "Ljava/lang/Object;",
  Cond.methodLink "DigestBox" 72 ⟨"java/lang/IllegalArgumentException", "<init>", "()V"⟩,
  Cond.instanceMethod ⟨"java/lang/IllegalArgumentException", "<init>", "()V"⟩,
  Cond.code ⟨"java/lang/IllegalArgumentException", "<init>", "()V"⟩ prog_13_method_1_code 1 none,
  Cond.methodLink "java/lang/IllegalArgumentException" 1 ⟨"java/lang/RuntimeException", "<init>", "()V"⟩,
  Cond.lays "java/lang/IllegalArgumentException" "java/lang/Throwable" "depth" "I",
  Cond.methodLink "DigestBoxLaw" 68 ⟨"DigestBoxLaw", "restart", "(LDigestBox;I)I"⟩,
  Cond.static ⟨"DigestBoxLaw", "restart", "(LDigestBox;I)I"⟩,
  Cond.codeWith ⟨"DigestBoxLaw", "restart", "(LDigestBox;I)I"⟩ method_5_code 3 (some .int) [(0, 5, 8, 25)],
  Cond.classLink "DigestBoxLaw" 25 "java/util/NoSuchElementException",
  Cond.methodLink "DigestBoxLaw" 21 ⟨"DigestBox", "restart", "(I)V"⟩,
  Cond.instanceMethod ⟨"DigestBox", "restart", "(I)V"⟩,
  Cond.selects "DigestBox" ⟨"DigestBox", "restart", "(I)V"⟩ ⟨"DigestBox", "restart", "(I)V"⟩,
  Cond.code ⟨"DigestBox", "restart", "(I)V"⟩ prog_1_method_4_code 2 none,
  Cond.methodLink "DigestBox" 73 ⟨"DigestBox", "checkKind", "(I)V"⟩,
  Cond.static ⟨"DigestBox", "checkKind", "(I)V"⟩,
  Cond.code ⟨"DigestBox", "checkKind", "(I)V"⟩ prog_1_method_14_code 1 none,
  Cond.classLink "DigestBox" 142 "java/util/NoSuchElementException",
  Cond.instantiable "java/util/NoSuchElementException" 6,
  Cond.selects "java/util/NoSuchElementException" ⟨"java/lang/Throwable", "fillInStackTrace", "(I)Ljava/lang/Throwable;"⟩ ⟨"java/lang/Throwable", "fillInStackTrace", "(I)Ljava/lang/Throwable;"⟩,
  Cond.lays "java/util/NoSuchElementException" "java/lang/Throwable" "cause" "Ljava/lang/Throwable;",
  Cond.lays "java/util/NoSuchElementException" "java/lang/Throwable" "stackTrace" "[Ljava/lang/StackTraceElement;",
  Cond.lays "java/util/NoSuchElementException" "java/lang/Throwable" "suppressedExceptions" "Ljava/util/List;",
  Cond.lays "java/util/NoSuchElementException" "java/lang/Throwable" "detailMessage" "Ljava/lang/String;",
  Cond.lays "java/util/NoSuchElementException" "java/lang/Throwable" "backtrace" "Ljava/lang/Object;",
  Cond.methodLink "DigestBox" 144 ⟨"java/util/NoSuchElementException", "<init>", "()V"⟩,
  Cond.instanceMethod ⟨"java/util/NoSuchElementException", "<init>", "()V"⟩,
  Cond.code ⟨"java/util/NoSuchElementException", "<init>", "()V"⟩ prog_26_method_1_code 1 none,
  Cond.methodLink "java/util/NoSuchElementException" 1 ⟨"java/lang/RuntimeException", "<init>", "()V"⟩]
def GT_8 : List Cond := [Cond.lays "java/util/NoSuchElementException" "java/lang/Throwable" "depth" "I",
  Cond.instanceMethod ⟨"DigestBox$Sha", "begin", "()V"⟩,
  Cond.code ⟨"DigestBox$Sha", "begin", "()V"⟩ prog_5_method_4_code 1 none,
  Cond.methodLink "DigestBox$Sha" 33 ⟨"DigestBox$Sha", "resume", "([JI)V"⟩,
  Cond.instanceMethod ⟨"DigestBox$Sha", "resume", "([JI)V"⟩,
  Cond.code ⟨"DigestBox$Sha", "resume", "([JI)V"⟩ prog_5_method_5_code 3 none,
  Cond.methodLink "DigestBoxLaw" 72 ⟨"DigestBoxLaw", "more", "(LDigestBox;I[J)I"⟩,
  Cond.static ⟨"DigestBoxLaw", "more", "(LDigestBox;I[J)I"⟩,
  Cond.codeWith ⟨"DigestBoxLaw", "more", "(LDigestBox;I[J)I"⟩ method_6_code 4 (some .int) [(0, 8, 11, 25)],
  Cond.methodLink "DigestBoxLaw" 27 ⟨"DigestBox", "more", "(I)J"⟩,
  Cond.instanceMethod ⟨"DigestBox", "more", "(I)J"⟩,
  Cond.selects "DigestBox" ⟨"DigestBox", "more", "(I)J"⟩ ⟨"DigestBox", "more", "(I)J"⟩,
  Cond.code ⟨"DigestBox", "more", "(I)J"⟩ prog_1_method_5_code 2 (some .long),
  Cond.instanceMethod ⟨"DigestBox$Sha", "take", "([BII)V"⟩,
  Cond.code ⟨"DigestBox$Sha", "take", "([BII)V"⟩ prog_5_method_7_code 5 none,
  Cond.methodLink "DigestBox$Sha" 44 ⟨"DigestBox$Sha", "goOverBlock", "()V"⟩,
  Cond.instanceMethod ⟨"DigestBox$Sha", "goOverBlock", "()V"⟩,
  Cond.code ⟨"DigestBox$Sha", "goOverBlock", "()V"⟩ prog_5_method_9_code 1 none,
  Cond.methodLink "DigestBox$Sha" 47 ⟨"DigestBox$Sha", "fillSchedule", "()V"⟩,
  Cond.sameMethod "DigestBox$Sha" "DigestBox$Sha" "fillSchedule" "()V",
  Cond.selects "DigestBox$NarrowSha" ⟨"DigestBox$Sha", "fillSchedule", "()V"⟩ ⟨"DigestBox$NarrowSha", "fillSchedule", "()V"⟩,
  Cond.instanceMethod ⟨"DigestBox$NarrowSha", "fillSchedule", "()V"⟩,
  Cond.code ⟨"DigestBox$NarrowSha", "fillSchedule", "()V"⟩ prog_3_method_3_code 4 none,
  Cond.methodLink "DigestBox$NarrowSha" 31 ⟨"DigestBox$NarrowSha", "smallSigma1", "(I)I"⟩,
  Cond.static ⟨"DigestBox$NarrowSha", "smallSigma1", "(I)I"⟩,
  Cond.code ⟨"DigestBox$NarrowSha", "smallSigma1", "(I)I"⟩ prog_3_method_7_code 1 (some .int),
  Cond.methodLink "DigestBox$NarrowSha" 34 ⟨"DigestBox$NarrowSha", "smallSigma0", "(I)I"⟩,
  Cond.static ⟨"DigestBox$NarrowSha", "smallSigma0", "(I)I"⟩,
  Cond.code ⟨"DigestBox$NarrowSha", "smallSigma0", "(I)I"⟩ prog_3_method_6_code 1 (some .int),
  Cond.selects "DigestBox$WideSha" ⟨"DigestBox$Sha", "fillSchedule", "()V"⟩ ⟨"DigestBox$WideSha", "fillSchedule", "()V"⟩,
  Cond.instanceMethod ⟨"DigestBox$WideSha", "fillSchedule", "()V"⟩,
  Cond.code ⟨"DigestBox$WideSha", "fillSchedule", "()V"⟩ prog_6_method_3_code 5 none,
  Cond.methodLink "DigestBox$WideSha" 32 ⟨"DigestBox$WideSha", "smallSigma1", "(J)J"⟩,
  Cond.static ⟨"DigestBox$WideSha", "smallSigma1", "(J)J"⟩,
  Cond.code ⟨"DigestBox$WideSha", "smallSigma1", "(J)J"⟩ prog_6_method_7_code 2 (some .long),
  Cond.methodLink "DigestBox$WideSha" 35 ⟨"DigestBox$WideSha", "smallSigma0", "(J)J"⟩,
  Cond.static ⟨"DigestBox$WideSha", "smallSigma0", "(J)J"⟩,
  Cond.code ⟨"DigestBox$WideSha", "smallSigma0", "(J)J"⟩ prog_6_method_6_code 2 (some .long),
  Cond.methodLink "DigestBox$Sha" 50 ⟨"DigestBox$Sha", "mixSchedule", "()V"⟩,
  Cond.sameMethod "DigestBox$Sha" "DigestBox$Sha" "mixSchedule" "()V"]
def GT_9 : List Cond := [Cond.selects "DigestBox$NarrowSha" ⟨"DigestBox$Sha", "mixSchedule", "()V"⟩ ⟨"DigestBox$NarrowSha", "mixSchedule", "()V"⟩,
  Cond.instanceMethod ⟨"DigestBox$NarrowSha", "mixSchedule", "()V"⟩,
  Cond.code ⟨"DigestBox$NarrowSha", "mixSchedule", "()V"⟩ prog_3_method_2_code 12 none,
  Cond.methodLink "DigestBox$NarrowSha" 17 ⟨"DigestBox$NarrowSha", "bigSigma1", "(I)I"⟩,
  Cond.static ⟨"DigestBox$NarrowSha", "bigSigma1", "(I)I"⟩,
  Cond.code ⟨"DigestBox$NarrowSha", "bigSigma1", "(I)I"⟩ prog_3_method_5_code 1 (some .int),
  Cond.fieldLink "DigestBox$NarrowSha" 21 "DigestBox$NarrowSha" "ROUND_CONSTANTS" "[I",
  Cond.methodLink "DigestBox$NarrowSha" 24 ⟨"DigestBox$NarrowSha", "bigSigma0", "(I)I"⟩,
  Cond.static ⟨"DigestBox$NarrowSha", "bigSigma0", "(I)I"⟩,
  Cond.code ⟨"DigestBox$NarrowSha", "bigSigma0", "(I)I"⟩ prog_3_method_4_code 1 (some .int),
  Cond.selects "DigestBox$WideSha" ⟨"DigestBox$Sha", "mixSchedule", "()V"⟩ ⟨"DigestBox$WideSha", "mixSchedule", "()V"⟩,
  Cond.instanceMethod ⟨"DigestBox$WideSha", "mixSchedule", "()V"⟩,
  Cond.code ⟨"DigestBox$WideSha", "mixSchedule", "()V"⟩ prog_6_method_2_code 22 none,
  Cond.methodLink "DigestBox$WideSha" 16 ⟨"DigestBox$WideSha", "bigSigma1", "(J)J"⟩,
  Cond.static ⟨"DigestBox$WideSha", "bigSigma1", "(J)J"⟩,
  Cond.code ⟨"DigestBox$WideSha", "bigSigma1", "(J)J"⟩ prog_6_method_5_code 2 (some .long),
  Cond.constantLong "DigestBox$WideSha" 20 (-1),
  Cond.fieldLink "DigestBox$WideSha" 22 "DigestBox$WideSha" "ROUND_CONSTANTS" "[J",
  Cond.methodLink "DigestBox$WideSha" 25 ⟨"DigestBox$WideSha", "bigSigma0", "(J)J"⟩,
  Cond.static ⟨"DigestBox$WideSha", "bigSigma0", "(J)J"⟩,
  Cond.code ⟨"DigestBox$WideSha", "bigSigma0", "(J)J"⟩ prog_6_method_4_code 2 (some .long),
  Cond.methodLink "DigestBoxLaw" 75 ⟨"DigestBoxLaw", "peek", "(LDigestBox;I[J)I"⟩,
  Cond.static ⟨"DigestBoxLaw", "peek", "(LDigestBox;I[J)I"⟩,
  Cond.codeWith ⟨"DigestBoxLaw", "peek", "(LDigestBox;I[J)I"⟩ method_7_code 4 (some .int) [(0, 9, 12, 25)],
  Cond.methodLink "DigestBoxLaw" 31 ⟨"DigestBox", "peek", "(I)I"⟩,
  Cond.instanceMethod ⟨"DigestBox", "peek", "(I)I"⟩,
  Cond.selects "DigestBox" ⟨"DigestBox", "peek", "(I)I"⟩ ⟨"DigestBox", "peek", "(I)I"⟩,
  Cond.code ⟨"DigestBox", "peek", "(I)I"⟩ prog_1_method_6_code 3 (some .int),
  Cond.instanceMethod ⟨"DigestBox$Sha", "becomeCopyOf", "(LDigestBox$Sha;)V"⟩,
  Cond.code ⟨"DigestBox$Sha", "becomeCopyOf", "(LDigestBox$Sha;)V"⟩ prog_5_method_6_code 2 none,
  Cond.methodLink "DigestBox" 101 ⟨"DigestBox", "roomForResult", "(I)[B"⟩,
  Cond.instanceMethod ⟨"DigestBox", "roomForResult", "(I)[B"⟩,
  Cond.code ⟨"DigestBox", "roomForResult", "(I)[B"⟩ prog_1_method_18_code 2 (some (.array .byte)),
  Cond.instanceMethod ⟨"DigestBox$Sha", "close", "([BI)V"⟩,
  Cond.code ⟨"DigestBox$Sha", "close", "([BI)V"⟩ prog_5_method_10_code 3 none,
  Cond.methodLink "DigestBox$Sha" 56 ⟨"DigestBox$Sha", "fillUpWithZeros", "()V"⟩,
  Cond.instanceMethod ⟨"DigestBox$Sha", "fillUpWithZeros", "()V"⟩,
  Cond.code ⟨"DigestBox$Sha", "fillUpWithZeros", "()V"⟩ prog_5_method_11_code 1 none,
  Cond.methodLink "DigestBox$Sha" 66 ⟨"java/util/Arrays", "fill", "([BIIB)V"⟩,
  Cond.static ⟨"java/util/Arrays", "fill", "([BIIB)V"⟩]
def GT_10 : List Cond := [Cond.code ⟨"java/util/Arrays", "fill", "([BIIB)V"⟩ prog_25_method_110_code 5 none,
  Cond.methodLink "java/util/Arrays" 13 ⟨"java/util/Arrays", "rangeCheck", "(III)V"⟩,
  Cond.static ⟨"java/util/Arrays", "rangeCheck", "(III)V"⟩,
  Cond.code ⟨"java/util/Arrays", "rangeCheck", "(III)V"⟩ prog_25_method_30_code 3 none,
  Cond.classLink "java/util/Arrays" 43 "java/lang/IllegalArgumentException",
  Cond.methodLink "java/util/Arrays" 343 ⟨"java/util/Arrays", "checkLength", "(II)V"⟩,
  Cond.static ⟨"java/util/Arrays", "checkLength", "(II)V"⟩,
  Cond.code ⟨"java/util/Arrays", "checkLength", "(II)V"⟩ prog_25_method_131_code 2 none,
  Cond.methodLink "java/util/Arrays" 65 ⟨"java/lang/IllegalArgumentException", "<init>", "(Ljava/lang/String;)V"⟩,
  Cond.instanceMethod ⟨"java/lang/IllegalArgumentException", "<init>", "(Ljava/lang/String;)V"⟩,
  Cond.code ⟨"java/lang/IllegalArgumentException", "<init>", "(Ljava/lang/String;)V"⟩ prog_13_method_2_code 2 none,
  Cond.methodLink "java/lang/IllegalArgumentException" 7 ⟨"java/lang/RuntimeException", "<init>", "(Ljava/lang/String;)V"⟩,
  Cond.instanceMethod ⟨"java/lang/RuntimeException", "<init>", "(Ljava/lang/String;)V"⟩,
  Cond.code ⟨"java/lang/RuntimeException", "<init>", "(Ljava/lang/String;)V"⟩ prog_18_method_2_code 2 none,
  Cond.methodLink "java/lang/RuntimeException" 7 ⟨"java/lang/Exception", "<init>", "(Ljava/lang/String;)V"⟩,
  Cond.instanceMethod ⟨"java/lang/Exception", "<init>", "(Ljava/lang/String;)V"⟩,
  Cond.code ⟨"java/lang/Exception", "<init>", "(Ljava/lang/String;)V"⟩ prog_12_method_2_code 2 none,
  Cond.methodLink "java/lang/Exception" 7 ⟨"java/lang/Throwable", "<init>", "(Ljava/lang/String;)V"⟩,
  Cond.instanceMethod ⟨"java/lang/Throwable", "<init>", "(Ljava/lang/String;)V"⟩,
  Cond.code ⟨"java/lang/Throwable", "<init>", "(Ljava/lang/String;)V"⟩ prog_24_method_2_code 2 none,
  Cond.instanceMethod ⟨"java/lang/IndexOutOfBoundsException", "<init>", "(Ljava/lang/String;)V"⟩,
  Cond.code ⟨"java/lang/IndexOutOfBoundsException", "<init>", "(Ljava/lang/String;)V"⟩ prog_15_method_2_code 2 none,
  Cond.methodLink "java/lang/IndexOutOfBoundsException" 7 ⟨"java/lang/RuntimeException", "<init>", "(Ljava/lang/String;)V"⟩,
  Cond.methodLink "DigestBox$Sha" 59 ⟨"DigestBox$Sha", "writeLengthInBits", "()V"⟩,
  Cond.instanceMethod ⟨"DigestBox$Sha", "writeLengthInBits", "()V"⟩,
  Cond.code ⟨"DigestBox$Sha", "writeLengthInBits", "()V"⟩ prog_5_method_12_code 4 none,
  Cond.constantLong "DigestBox$Sha" 72 8,
  Cond.methodLink "DigestBox$Sha" 62 ⟨"DigestBox$Sha", "writeHash", "([BI)V"⟩,
  Cond.instanceMethod ⟨"DigestBox$Sha", "writeHash", "([BI)V"⟩,
  Cond.code ⟨"DigestBox$Sha", "writeHash", "([BI)V"⟩ prog_5_method_13_code 5 none,
  Cond.methodLink "DigestBoxLaw" 86 ⟨"DigestBoxLaw", "hmac", "(LDigestBox;I[J)I"⟩,
  Cond.static ⟨"DigestBoxLaw", "hmac", "(LDigestBox;I[J)I"⟩,
  Cond.codeWith ⟨"DigestBoxLaw", "hmac", "(LDigestBox;I[J)I"⟩ method_8_code 4 (some .int) [(0, 9, 12, 25)],
  Cond.methodLink "DigestBoxLaw" 34 ⟨"DigestBox", "hmac", "(I)I"⟩,
  Cond.instanceMethod ⟨"DigestBox", "hmac", "(I)I"⟩,
  Cond.selects "DigestBox" ⟨"DigestBox", "hmac", "(I)I"⟩ ⟨"DigestBox", "hmac", "(I)I"⟩,
  Cond.code ⟨"DigestBox", "hmac", "(I)I"⟩ prog_1_method_9_code 3 (some .int),
  Cond.instanceMethod ⟨"DigestBox$Mac", "setKey", "(LDigestBox$Row;)V"⟩,
  Cond.code ⟨"DigestBox$Mac", "setKey", "(LDigestBox$Row;)V"⟩ prog_2_method_2_code 3 none,
  Cond.methodLink "DigestBox$Mac" 39 ⟨"DigestBox$Mac", "fillKeyBlock", "(LDigestBox$Row;)V"⟩]
def GT_11 : List Cond := [Cond.instanceMethod ⟨"DigestBox$Mac", "fillKeyBlock", "(LDigestBox$Row;)V"⟩,
  Cond.code ⟨"DigestBox$Mac", "fillKeyBlock", "(LDigestBox$Row;)V"⟩ prog_2_method_3_code 2 none,
  Cond.methodLink "DigestBox$Mac" 50 ⟨"java/util/Arrays", "fill", "([BB)V"⟩,
  Cond.static ⟨"java/util/Arrays", "fill", "([BB)V"⟩,
  Cond.code ⟨"java/util/Arrays", "fill", "([BB)V"⟩ prog_25_method_109_code 4 none,
  Cond.methodLink "DigestBox$Mac" 75 ⟨"java/lang/System", "arraycopy", "(Ljava/lang/Object;ILjava/lang/Object;II)V"⟩,
  Cond.methodLink "DigestBox$Mac" 43 ⟨"DigestBox$Mac", "startWith", "(I[J)V"⟩,
  Cond.instanceMethod ⟨"DigestBox$Mac", "startWith", "(I[J)V"⟩,
  Cond.code ⟨"DigestBox$Mac", "startWith", "(I[J)V"⟩ prog_2_method_4_code 4 none,
  Cond.instanceMethod ⟨"DigestBox$Sha", "takeByte", "(I)V"⟩,
  Cond.code ⟨"DigestBox$Sha", "takeByte", "(I)V"⟩ prog_5_method_8_code 2 none,
  Cond.instanceMethod ⟨"DigestBox$Mac", "beginText", "()V"⟩,
  Cond.code ⟨"DigestBox$Mac", "beginText", "()V"⟩ prog_2_method_5_code 1 none,
  Cond.instanceMethod ⟨"DigestBox$Mac", "closeText", "([BI)V"⟩,
  Cond.code ⟨"DigestBox$Mac", "closeText", "([BI)V"⟩ prog_2_method_6_code 3 none,
  Cond.methodLink "DigestBoxLaw" 89 ⟨"DigestBoxLaw", "expand", "(LDigestBox;II[J)I"⟩,
  Cond.static ⟨"DigestBoxLaw", "expand", "(LDigestBox;II[J)I"⟩,
  Cond.codeWith ⟨"DigestBoxLaw", "expand", "(LDigestBox;II[J)I"⟩ method_9_code 5 (some .int) [(0, 10, 13, 25), (0, 10, 17, 19)],
  Cond.methodLink "DigestBoxLaw" 37 ⟨"DigestBox", "expand", "(II)I"⟩,
  Cond.instanceMethod ⟨"DigestBox", "expand", "(II)I"⟩,
  Cond.selects "DigestBox" ⟨"DigestBox", "expand", "(II)I"⟩ ⟨"DigestBox", "expand", "(II)I"⟩,
  Cond.code ⟨"DigestBox", "expand", "(II)I"⟩ prog_1_method_10_code 3 (some .int),
  Cond.methodLink "DigestBox" 121 ⟨"DigestBox", "checkExpandedLength", "(II)V"⟩,
  Cond.instanceMethod ⟨"DigestBox", "checkExpandedLength", "(II)V"⟩,
  Cond.code ⟨"DigestBox", "checkExpandedLength", "(II)V"⟩ prog_1_method_15_code 3 none,
  Cond.methodLink "DigestBox" 125 ⟨"DigestBox", "expandKey", "(LDigestBox$Mac;ILDigestBox$Row;)V"⟩,
  Cond.instanceMethod ⟨"DigestBox", "expandKey", "(LDigestBox$Mac;ILDigestBox$Row;)V"⟩,
  Cond.code ⟨"DigestBox", "expandKey", "(LDigestBox$Mac;ILDigestBox$Row;)V"⟩ prog_1_method_20_code 8 none,
  Cond.methodLink "DigestBoxLaw" 93 ⟨"DigestBoxLaw", "expandLabel", "(LDigestBox;III[J)I"⟩,
  Cond.static ⟨"DigestBoxLaw", "expandLabel", "(LDigestBox;III[J)I"⟩,
  Cond.codeWith ⟨"DigestBoxLaw", "expandLabel", "(LDigestBox;III[J)I"⟩ method_10_code 6 (some .int) [(0, 12, 15, 25), (0, 12, 19, 19)],
  Cond.methodLink "DigestBoxLaw" 41 ⟨"DigestBox", "expandLabel", "(III)I"⟩,
  Cond.instanceMethod ⟨"DigestBox", "expandLabel", "(III)I"⟩,
  Cond.selects "DigestBox" ⟨"DigestBox", "expandLabel", "(III)I"⟩ ⟨"DigestBox", "expandLabel", "(III)I"⟩,
  Cond.code ⟨"DigestBox", "expandLabel", "(III)I"⟩ prog_1_method_11_code 4 (some .int),
  Cond.methodLink "DigestBox" 129 ⟨"DigestBox", "checkLabelLength", "(I)V"⟩,
  Cond.instanceMethod ⟨"DigestBox", "checkLabelLength", "(I)V"⟩,
  Cond.code ⟨"DigestBox", "checkLabelLength", "(I)V"⟩ prog_1_method_16_code 2 none,
  Cond.methodLink "DigestBox" 132 ⟨"DigestBox", "writeLabelInfo", "(II)V"⟩,
  Cond.instanceMethod ⟨"DigestBox", "writeLabelInfo", "(II)V"⟩]
def GT_12 : List Cond := [Cond.code ⟨"DigestBox", "writeLabelInfo", "(II)V"⟩ prog_1_method_19_code 4 none,
  Cond.fieldLink "DigestBox" 154 "DigestBox" "LABEL_PREFIX" "[B",
  Cond.methodLink "DigestBoxLaw" 97 ⟨"DigestBoxLaw", "result", "(LDigestBox;I[J)I"⟩,
  Cond.static ⟨"DigestBoxLaw", "result", "(LDigestBox;I[J)I"⟩,
  Cond.codeWith ⟨"DigestBoxLaw", "result", "(LDigestBox;I[J)I"⟩ method_11_code 4 (some .int) [(0, 9, 12, 48)],
  Cond.classLink "DigestBoxLaw" 48 "java/lang/IndexOutOfBoundsException",
  Cond.methodLink "DigestBoxLaw" 45 ⟨"DigestBox", "result", "(I)I"⟩,
  Cond.instanceMethod ⟨"DigestBox", "result", "(I)I"⟩,
  Cond.selects "DigestBox" ⟨"DigestBox", "result", "(I)I"⟩ ⟨"DigestBox", "result", "(I)I"⟩,
  Cond.code ⟨"DigestBox", "result", "(I)I"⟩ prog_1_method_12_code 2 (some .int),
  Cond.classLink "DigestBox" 135 "java/lang/IndexOutOfBoundsException",
  Cond.instantiable "java/lang/IndexOutOfBoundsException" 6,
  Cond.selects "java/lang/IndexOutOfBoundsException" ⟨"java/lang/Throwable", "fillInStackTrace", "(I)Ljava/lang/Throwable;"⟩ ⟨"java/lang/Throwable", "fillInStackTrace", "(I)Ljava/lang/Throwable;"⟩,
  Cond.lays "java/lang/IndexOutOfBoundsException" "java/lang/Throwable" "cause" "Ljava/lang/Throwable;",
  Cond.lays "java/lang/IndexOutOfBoundsException" "java/lang/Throwable" "stackTrace" "[Ljava/lang/StackTraceElement;",
  Cond.lays "java/lang/IndexOutOfBoundsException" "java/lang/Throwable" "suppressedExceptions" "Ljava/util/List;",
  Cond.lays "java/lang/IndexOutOfBoundsException" "java/lang/Throwable" "detailMessage" "Ljava/lang/String;",
  Cond.lays "java/lang/IndexOutOfBoundsException" "java/lang/Throwable" "backtrace" "Ljava/lang/Object;",
  Cond.methodLink "DigestBox" 137 ⟨"java/lang/IndexOutOfBoundsException", "<init>", "()V"⟩,
  Cond.instanceMethod ⟨"java/lang/IndexOutOfBoundsException", "<init>", "()V"⟩,
  Cond.code ⟨"java/lang/IndexOutOfBoundsException", "<init>", "()V"⟩ prog_15_method_1_code 1 none,
  Cond.methodLink "java/lang/IndexOutOfBoundsException" 1 ⟨"java/lang/RuntimeException", "<init>", "()V"⟩,
  Cond.lays "java/lang/IndexOutOfBoundsException" "java/lang/Throwable" "depth" "I",
  Cond.classLink "DigestBoxLaw" 51 "DigestBoxModel",
  Cond.instantiable "DigestBoxModel" 21,
  Cond.methodLink "DigestBoxLaw" 53 ⟨"DigestBoxModel", "<init>", "()V"⟩,
  Cond.instanceMethod ⟨"DigestBoxModel", "<init>", "()V"⟩,
  Cond.code ⟨"DigestBoxModel", "<init>", "()V"⟩ prog_8_method_1_code 3 none,
  Cond.methodLink "DigestBoxModel" 1 ⟨"java/lang/Object", "<init>", "()V"⟩,
  Cond.constant "DigestBoxModel" 7 65536,
  Cond.constant "DigestBoxModel" 20 245760,
  Cond.constant "DigestBoxModel" 31 65800,
  Cond.methodLink "DigestBoxModel" 63 ⟨"DigestBoxModel", "prime", "(I)I"⟩,
  Cond.static ⟨"DigestBoxModel", "prime", "(I)I"⟩,
  Cond.code ⟨"DigestBoxModel", "prime", "(I)I"⟩ prog_8_method_4_code 4 (some .int),
  Cond.methodLink "DigestBoxModel" 67 ⟨"DigestBoxModel", "root", "(II)J"⟩,
  Cond.instanceMethod ⟨"DigestBoxModel", "root", "(II)J"⟩,
  Cond.code ⟨"DigestBoxModel", "root", "(II)J"⟩ prog_8_method_5_code 12 (some .long),
  Cond.methodLink "DigestBoxModel" 75 ⟨"DigestBoxModel", "fits", "(JJII)Z"⟩,
  Cond.instanceMethod ⟨"DigestBoxModel", "fits", "(JJII)Z"⟩]
def GT_13 : List Cond := [Cond.code ⟨"DigestBoxModel", "fits", "(JJII)Z"⟩ prog_8_method_6_code 10 (some .boolean),
  Cond.methodLink "DigestBoxModel" 79 ⟨"DigestBoxModel", "times", "(JJ)V"⟩,
  Cond.instanceMethod ⟨"DigestBoxModel", "times", "(JJ)V"⟩,
  Cond.code ⟨"DigestBoxModel", "times", "(JJ)V"⟩ prog_8_method_7_code 13 none,
  Cond.constantLong "DigestBoxModel" 83 4294967295,
  Cond.fieldLink "DigestBoxModel" 71 "DigestBoxModel" "thrown" "I",
  Cond.fieldLink "DigestBoxModel" 8 "DigestBoxModel" "tape" "[B",
  Cond.fieldLink "DigestBoxModel" 14 "DigestBoxModel" "key" "[B",
  Cond.fieldLink "DigestBoxModel" 17 "DigestBoxModel" "result" "[B",
  Cond.fieldLink "DigestBoxModel" 132 "DigestBoxModel" "tapes" "I",
  Cond.fieldLink "DigestBoxModel" 125 "DigestBoxModel" "keys" "I",
  Cond.fieldLink "DigestBoxModel" 144 "DigestBoxModel" "results" "I",
  Cond.fieldLink "DigestBoxModel" 21 "DigestBoxModel" "run" "[B",
  Cond.fieldLink "DigestBoxModel" 24 "DigestBoxModel" "runs" "[I",
  Cond.fieldLink "DigestBoxModel" 28 "DigestBoxModel" "blocks" "[I",
  Cond.fieldLink "DigestBoxModel" 32 "DigestBoxModel" "work" "[B",
  Cond.fieldLink "DigestBoxModel" 35 "DigestBoxModel" "out" "[B",
  Cond.fieldLink "DigestBoxModel" 38 "DigestBoxModel" "last" "[B",
  Cond.fieldLink "DigestBoxModel" 41 "DigestBoxModel" "pad" "[B",
  Cond.fieldLink "DigestBoxModel" 44 "DigestBoxModel" "roots" "[J",
  Cond.fieldLink "DigestBoxModel" 48 "DigestBoxModel" "starts" "[J",
  Cond.fieldLink "DigestBoxModel" 51 "DigestBoxModel" "words" "[J",
  Cond.fieldLink "DigestBoxModel" 54 "DigestBoxModel" "state" "[J",
  Cond.fieldLink "DigestBoxModel" 57 "DigestBoxModel" "left" "[J",
  Cond.fieldLink "DigestBoxModel" 60 "DigestBoxModel" "cube" "[J",
  Cond.fieldLink "DigestBoxModel" 88 "DigestBoxModel" "wide" "Z",
  Cond.lays "DigestBoxModel" "DigestBoxModel" "thrown" "I",
  Cond.laysFinal "DigestBoxModel" "DigestBoxModel" "tape" "[B",
  Cond.laysFinal "DigestBoxModel" "DigestBoxModel" "key" "[B",
  Cond.laysFinal "DigestBoxModel" "DigestBoxModel" "result" "[B",
  Cond.lays "DigestBoxModel" "DigestBoxModel" "tapes" "I",
  Cond.lays "DigestBoxModel" "DigestBoxModel" "keys" "I",
  Cond.lays "DigestBoxModel" "DigestBoxModel" "results" "I",
  Cond.laysFinal "DigestBoxModel" "DigestBoxModel" "run" "[B",
  Cond.laysFinal "DigestBoxModel" "DigestBoxModel" "runs" "[I",
  Cond.laysFinal "DigestBoxModel" "DigestBoxModel" "blocks" "[I",
  Cond.laysFinal "DigestBoxModel" "DigestBoxModel" "work" "[B",
  Cond.laysFinal "DigestBoxModel" "DigestBoxModel" "out" "[B",
  Cond.laysFinal "DigestBoxModel" "DigestBoxModel" "last" "[B",
  Cond.laysFinal "DigestBoxModel" "DigestBoxModel" "pad" "[B"]
def GT_14 : List Cond := [Cond.laysFinal "DigestBoxModel" "DigestBoxModel" "roots" "[J",
  Cond.laysFinal "DigestBoxModel" "DigestBoxModel" "starts" "[J",
  Cond.laysFinal "DigestBoxModel" "DigestBoxModel" "words" "[J",
  Cond.laysFinal "DigestBoxModel" "DigestBoxModel" "state" "[J",
  Cond.laysFinal "DigestBoxModel" "DigestBoxModel" "left" "[J",
  Cond.laysFinal "DigestBoxModel" "DigestBoxModel" "cube" "[J",
  Cond.lays "DigestBoxModel" "DigestBoxModel" "wide" "Z",
  Cond.methodLink "DigestBoxLaw" 60 ⟨"DigestBoxModel", "thrown", "()I"⟩,
  Cond.instanceMethod ⟨"DigestBoxModel", "thrown", "()I"⟩,
  Cond.selects "DigestBoxModel" ⟨"DigestBoxModel", "thrown", "()I"⟩ ⟨"DigestBoxModel", "thrown", "()I"⟩,
  Cond.code ⟨"DigestBoxModel", "thrown", "()I"⟩ prog_8_method_2_code 1 (some .int),
  Cond.methodLink "DigestBoxLaw" 59 ⟨"DigestBoxModel", "feed", "(IIIII)I"⟩,
  Cond.instanceMethod ⟨"DigestBoxModel", "feed", "(IIIII)I"⟩,
  Cond.selects "DigestBoxModel" ⟨"DigestBoxModel", "feed", "(IIIII)I"⟩ ⟨"DigestBoxModel", "feed", "(IIIII)I"⟩,
  Cond.code ⟨"DigestBoxModel", "feed", "(IIIII)I"⟩ prog_8_method_20_code 8 (some .int),
  Cond.constant "DigestBoxModel" 135 65516,
  Cond.methodLink "DigestBoxModel" 136 ⟨"DigestBoxModel", "fail", "(I)I"⟩,
  Cond.instanceMethod ⟨"DigestBoxModel", "fail", "(I)I"⟩,
  Cond.code ⟨"DigestBoxModel", "fail", "(I)I"⟩ prog_8_method_3_code 2 (some .int),
  Cond.methodLink "DigestBoxLaw" 67 ⟨"DigestBoxModel", "end", "(I)I"⟩,
  Cond.instanceMethod ⟨"DigestBoxModel", "end", "(I)I"⟩,
  Cond.selects "DigestBoxModel" ⟨"DigestBoxModel", "end", "(I)I"⟩ ⟨"DigestBoxModel", "end", "(I)I"⟩,
  Cond.code ⟨"DigestBoxModel", "end", "(I)I"⟩ prog_8_method_21_code 2 (some .int),
  Cond.methodLink "DigestBoxLaw" 71 ⟨"DigestBoxModel", "restart", "(I)V"⟩,
  Cond.instanceMethod ⟨"DigestBoxModel", "restart", "(I)V"⟩,
  Cond.selects "DigestBoxModel" ⟨"DigestBoxModel", "restart", "(I)V"⟩ ⟨"DigestBoxModel", "restart", "(I)V"⟩,
  Cond.code ⟨"DigestBoxModel", "restart", "(I)V"⟩ prog_8_method_23_code 2 none,
  Cond.methodLink "DigestBoxModel" 139 ⟨"DigestBoxModel", "strange", "(I)Z"⟩,
  Cond.static ⟨"DigestBoxModel", "strange", "(I)Z"⟩,
  Cond.code ⟨"DigestBoxModel", "strange", "(I)Z"⟩ prog_8_method_22_code 1 (some .boolean),
  Cond.methodLink "DigestBoxLaw" 74 ⟨"DigestBoxModel", "more", "(I)J"⟩,
  Cond.instanceMethod ⟨"DigestBoxModel", "more", "(I)J"⟩,
  Cond.selects "DigestBoxModel" ⟨"DigestBoxModel", "more", "(I)J"⟩ ⟨"DigestBoxModel", "more", "(I)J"⟩,
  Cond.code ⟨"DigestBoxModel", "more", "(I)J"⟩ prog_8_method_24_code 4 (some .long),
  Cond.methodLink "DigestBoxModel" 85 ⟨"DigestBoxModel", "block", "(I)I"⟩,
  Cond.static ⟨"DigestBoxModel", "block", "(I)I"⟩,
  Cond.code ⟨"DigestBoxModel", "block", "(I)I"⟩ prog_8_method_9_code 1 (some .int),
  Cond.constant "DigestBoxModel" 143 81920,
  Cond.methodLink "DigestBoxLaw" 77 ⟨"DigestBoxModel", "peek", "(I)I"⟩,
  Cond.instanceMethod ⟨"DigestBoxModel", "peek", "(I)I"⟩]
def GT_15 : List Cond := [Cond.selects "DigestBoxModel" ⟨"DigestBoxModel", "peek", "(I)I"⟩ ⟨"DigestBoxModel", "peek", "(I)I"⟩,
  Cond.code ⟨"DigestBoxModel", "peek", "(I)I"⟩ prog_8_method_25_code 3 (some .int),
  Cond.methodLink "DigestBoxModel" 128 ⟨"DigestBoxModel", "hash", "(I[BII)V"⟩,
  Cond.instanceMethod ⟨"DigestBoxModel", "hash", "(I[BII)V"⟩,
  Cond.code ⟨"DigestBoxModel", "hash", "(I[BII)V"⟩ prog_8_method_16_code 10 none,
  Cond.methodLink "DigestBoxModel" 98 ⟨"DigestBoxModel", "blocksOf", "(II)I"⟩,
  Cond.static ⟨"DigestBoxModel", "blocksOf", "(II)I"⟩,
  Cond.code ⟨"DigestBoxModel", "blocksOf", "(II)I"⟩ prog_8_method_10_code 3 (some .int),
  Cond.methodLink "DigestBoxModel" 102 ⟨"DigestBoxModel", "padded", "([BIIII)I"⟩,
  Cond.static ⟨"DigestBoxModel", "padded", "([BIIII)I"⟩,
  Cond.code ⟨"DigestBoxModel", "padded", "([BIIII)I"⟩ prog_8_method_15_code 5 (some .int),
  Cond.constantLong "DigestBoxModel" 96 8,
  Cond.methodLink "DigestBoxModel" 106 ⟨"DigestBoxModel", "over", "()V"⟩,
  Cond.instanceMethod ⟨"DigestBoxModel", "over", "()V"⟩,
  Cond.code ⟨"DigestBoxModel", "over", "()V"⟩ prog_8_method_17_code 27 none,
  Cond.methodLink "DigestBoxModel" 112 ⟨"DigestBoxModel", "shifted", "(JIII)J"⟩,
  Cond.instanceMethod ⟨"DigestBoxModel", "shifted", "(JIII)J"⟩,
  Cond.code ⟨"DigestBoxModel", "shifted", "(JIII)J"⟩ prog_8_method_13_code 6 (some .long),
  Cond.methodLink "DigestBoxModel" 92 ⟨"DigestBoxModel", "turned", "(JI)J"⟩,
  Cond.instanceMethod ⟨"DigestBoxModel", "turned", "(JI)J"⟩,
  Cond.code ⟨"DigestBoxModel", "turned", "(JI)J"⟩ prog_8_method_11_code 4 (some .long),
  Cond.methodLink "DigestBoxModel" 116 ⟨"DigestBoxModel", "fit", "(J)J"⟩,
  Cond.instanceMethod ⟨"DigestBoxModel", "fit", "(J)J"⟩,
  Cond.code ⟨"DigestBoxModel", "fit", "(J)J"⟩ prog_8_method_14_code 3 (some .long),
  Cond.methodLink "DigestBoxModel" 120 ⟨"DigestBoxModel", "mixed", "(JIII)J"⟩,
  Cond.instanceMethod ⟨"DigestBoxModel", "mixed", "(JIII)J"⟩,
  Cond.code ⟨"DigestBoxModel", "mixed", "(JIII)J"⟩ prog_8_method_12_code 6 (some .long),
  Cond.constantLong "DigestBoxModel" 123 (-1),
  Cond.methodLink "DigestBoxModel" 109 ⟨"DigestBoxModel", "size", "(I)I"⟩,
  Cond.static ⟨"DigestBoxModel", "size", "(I)I"⟩,
  Cond.code ⟨"DigestBoxModel", "size", "(I)I"⟩ prog_8_method_8_code 1 (some .int),
  Cond.methodLink "DigestBoxLaw" 81 ⟨"DigestBoxModel", "key", "()I"⟩,
  Cond.instanceMethod ⟨"DigestBoxModel", "key", "()I"⟩,
  Cond.selects "DigestBoxModel" ⟨"DigestBoxModel", "key", "()I"⟩ ⟨"DigestBoxModel", "key", "()I"⟩,
  Cond.code ⟨"DigestBoxModel", "key", "()I"⟩ prog_8_method_26_code 2 (some .int),
  Cond.methodLink "DigestBoxLaw" 85 ⟨"DigestBoxModel", "keep", "()I"⟩,
  Cond.instanceMethod ⟨"DigestBoxModel", "keep", "()I"⟩,
  Cond.selects "DigestBoxModel" ⟨"DigestBoxModel", "keep", "()I"⟩ ⟨"DigestBoxModel", "keep", "()I"⟩,
  Cond.code ⟨"DigestBoxModel", "keep", "()I"⟩ prog_8_method_27_code 2 (some .int),
  Cond.methodLink "DigestBoxLaw" 88 ⟨"DigestBoxModel", "hmac", "(I)I"⟩]
def GT_16 : List Cond := [Cond.instanceMethod ⟨"DigestBoxModel", "hmac", "(I)I"⟩,
  Cond.selects "DigestBoxModel" ⟨"DigestBoxModel", "hmac", "(I)I"⟩ ⟨"DigestBoxModel", "hmac", "(I)I"⟩,
  Cond.code ⟨"DigestBoxModel", "hmac", "(I)I"⟩ prog_8_method_28_code 3 (some .int),
  Cond.methodLink "DigestBoxModel" 147 ⟨"DigestBoxModel", "prepare", "(I)V"⟩,
  Cond.instanceMethod ⟨"DigestBoxModel", "prepare", "(I)V"⟩,
  Cond.code ⟨"DigestBoxModel", "prepare", "(I)V"⟩ prog_8_method_18_code 4 none,
  Cond.methodLink "DigestBoxModel" 151 ⟨"DigestBoxModel", "keyed", "(II)V"⟩,
  Cond.instanceMethod ⟨"DigestBoxModel", "keyed", "(II)V"⟩,
  Cond.code ⟨"DigestBoxModel", "keyed", "(II)V"⟩ prog_8_method_19_code 5 none,
  Cond.methodLink "DigestBoxLaw" 92 ⟨"DigestBoxModel", "expand", "(II)I"⟩,
  Cond.instanceMethod ⟨"DigestBoxModel", "expand", "(II)I"⟩,
  Cond.selects "DigestBoxModel" ⟨"DigestBoxModel", "expand", "(II)I"⟩ ⟨"DigestBoxModel", "expand", "(II)I"⟩,
  Cond.code ⟨"DigestBoxModel", "expand", "(II)I"⟩ prog_8_method_30_code 3 (some .int),
  Cond.methodLink "DigestBoxModel" 155 ⟨"DigestBoxModel", "expanded", "(II)I"⟩,
  Cond.instanceMethod ⟨"DigestBoxModel", "expanded", "(II)I"⟩,
  Cond.code ⟨"DigestBoxModel", "expanded", "(II)I"⟩ prog_8_method_29_code 7 (some .int),
  Cond.methodLink "DigestBoxLaw" 96 ⟨"DigestBoxModel", "expandLabel", "(III)I"⟩,
  Cond.instanceMethod ⟨"DigestBoxModel", "expandLabel", "(III)I"⟩,
  Cond.selects "DigestBoxModel" ⟨"DigestBoxModel", "expandLabel", "(III)I"⟩ ⟨"DigestBoxModel", "expandLabel", "(III)I"⟩,
  Cond.code ⟨"DigestBoxModel", "expandLabel", "(III)I"⟩ prog_8_method_31_code 6 (some .int),
  Cond.methodLink "DigestBoxLaw" 99 ⟨"DigestBoxModel", "result", "(I)I"⟩,
  Cond.instanceMethod ⟨"DigestBoxModel", "result", "(I)I"⟩,
  Cond.selects "DigestBoxModel" ⟨"DigestBoxModel", "result", "(I)I"⟩ ⟨"DigestBoxModel", "result", "(I)I"⟩,
  Cond.code ⟨"DigestBoxModel", "result", "(I)I"⟩ prog_8_method_32_code 2 (some .int),
  Cond.methodLink "DigestBoxLaw" 103 ⟨"DigestBoxModel", "count", "(I)I"⟩,
  Cond.instanceMethod ⟨"DigestBoxModel", "count", "(I)I"⟩,
  Cond.selects "DigestBoxModel" ⟨"DigestBoxModel", "count", "(I)I"⟩ ⟨"DigestBoxModel", "count", "(I)I"⟩,
  Cond.code ⟨"DigestBoxModel", "count", "(I)I"⟩ prog_8_method_33_code 2 (some .int),
  Cond.sameMethod "java/lang/Throwable" "java/lang/Throwable" "fillInStackTrace" "(I)Ljava/lang/Throwable;",
  Cond.sameMethod "DigestBox$Sha" "DigestBox$Sha" "begin" "()V",
  Cond.sameMethod "DigestBox$Sha" "DigestBox$Sha" "resume" "([JI)V",
  Cond.sameMethod "DigestBox$Sha" "DigestBox$Sha" "take" "([BII)V",
  Cond.sameMethod "DigestBox$Sha" "DigestBox$Sha" "goOverBlock" "()V",
  Cond.sameMethod "DigestBox$Sha" "DigestBox$Sha" "becomeCopyOf" "(LDigestBox$Sha;)V",
  Cond.sameMethod "DigestBox$Sha" "DigestBox$Sha" "close" "([BI)V",
  Cond.sameMethod "DigestBox$Sha" "DigestBox$Sha" "fillUpWithZeros" "()V",
  Cond.sameMethod "DigestBox$Sha" "DigestBox$Sha" "writeLengthInBits" "()V",
  Cond.sameMethod "DigestBox$Sha" "DigestBox$Sha" "writeHash" "([BI)V",
  Cond.sameMethod "DigestBox$Sha" "DigestBox$Sha" "takeByte" "(I)V",
  Cond.superclass "java/lang/Throwable" "java/lang/Object"]
def GT : List Cond := GT_0 ++ (GT_1 ++ (GT_2 ++ (GT_3 ++ (GT_4 ++ (GT_5 ++ (GT_6 ++ (GT_7 ++ (GT_8 ++ (GT_9 ++ (GT_10 ++ (GT_11 ++ (GT_12 ++ (GT_13 ++ (GT_14 ++ (GT_15 ++ (GT_16))))))))))))))))
theorem GT_0_ok : GT_0.all goodWord = true := by decide +kernel
theorem GT_1_ok : GT_1.all goodWord = true := by decide +kernel
theorem GT_2_ok : GT_2.all goodWord = true := by decide +kernel
theorem GT_3_ok : GT_3.all goodWord = true := by decide +kernel
theorem GT_4_ok : GT_4.all goodWord = true := by decide +kernel
theorem GT_5_ok : GT_5.all goodWord = true := by decide +kernel
theorem GT_6_ok : GT_6.all goodWord = true := by decide +kernel
theorem GT_7_ok : GT_7.all goodWord = true := by decide +kernel
theorem GT_8_ok : GT_8.all goodWord = true := by decide +kernel
theorem GT_9_ok : GT_9.all goodWord = true := by decide +kernel
theorem GT_10_ok : GT_10.all goodWord = true := by decide +kernel
theorem GT_11_ok : GT_11.all goodWord = true := by decide +kernel
theorem GT_12_ok : GT_12.all goodWord = true := by decide +kernel
theorem GT_13_ok : GT_13.all goodWord = true := by decide +kernel
theorem GT_14_ok : GT_14.all goodWord = true := by decide +kernel
theorem GT_15_ok : GT_15.all goodWord = true := by decide +kernel
theorem GT_16_ok : GT_16.all goodWord = true := by decide +kernel
theorem GT_good : GoodIn GT GT := fun w h => ⟨h, good_of_word (by
  unfold GT at h
  simp only [List.mem_append] at h
  rcases h with h | h | h | h | h | h | h | h | h | h | h | h | h | h | h | h | h
  · exact List.all_eq_true.mp GT_0_ok w h
  · exact List.all_eq_true.mp GT_1_ok w h
  · exact List.all_eq_true.mp GT_2_ok w h
  · exact List.all_eq_true.mp GT_3_ok w h
  · exact List.all_eq_true.mp GT_4_ok w h
  · exact List.all_eq_true.mp GT_5_ok w h
  · exact List.all_eq_true.mp GT_6_ok w h
  · exact List.all_eq_true.mp GT_7_ok w h
  · exact List.all_eq_true.mp GT_8_ok w h
  · exact List.all_eq_true.mp GT_9_ok w h
  · exact List.all_eq_true.mp GT_10_ok w h
  · exact List.all_eq_true.mp GT_11_ok w h
  · exact List.all_eq_true.mp GT_12_ok w h
  · exact List.all_eq_true.mp GT_13_ok w h
  · exact List.all_eq_true.mp GT_14_ok w h
  · exact List.all_eq_true.mp GT_15_ok w h
  · exact List.all_eq_true.mp GT_16_ok w h)⟩
theorem gm_0 : Cond.selects "DigestBox$Row" ⟨"DigestBox$Row", "becomeCopyOf", "(LDigestBox$Row;)V"⟩ ⟨"DigestBox$Row", "becomeCopyOf", "(LDigestBox$Row;)V"⟩ ∈ GT := (List.mem_append_left _ (List.mem_of_getElem? (i := 0) rfl))
theorem gm_1 : Cond.selects "DigestBox$Row" ⟨"DigestBox$Row", "append", "([BII)V"⟩ ⟨"DigestBox$Row", "append", "([BII)V"⟩ ∈ GT := (List.mem_append_left _ (List.mem_of_getElem? (i := 1) rfl))
theorem gm_2 : Cond.selects "DigestBox$Row" ⟨"DigestBox$Row", "makeRoom", "(I)V"⟩ ⟨"DigestBox$Row", "makeRoom", "(I)V"⟩ ∈ GT := (List.mem_append_left _ (List.mem_of_getElem? (i := 2) rfl))
theorem gm_3 : Cond.selects "DigestBox" ⟨"DigestBox", "blocksOf", "(I)I"⟩ ⟨"DigestBox", "blocksOf", "(I)I"⟩ ∈ GT := (List.mem_append_left _ (List.mem_of_getElem? (i := 3) rfl))
theorem gm_4 : Cond.selects "DigestBox$Row" ⟨"DigestBox$Row", "appendNumber", "(I)V"⟩ ⟨"DigestBox$Row", "appendNumber", "(I)V"⟩ ∈ GT := (List.mem_append_left _ (List.mem_of_getElem? (i := 4) rfl))
theorem gm_5 : Cond.selects "DigestBox$Row" ⟨"DigestBox$Row", "appendByte", "(I)V"⟩ ⟨"DigestBox$Row", "appendByte", "(I)V"⟩ ∈ GT := (List.mem_append_left _ (List.mem_of_getElem? (i := 5) rfl))
theorem gm_6 : Cond.selects "DigestBox$NarrowSha" ⟨"DigestBox$Sha", "begin", "()V"⟩ ⟨"DigestBox$Sha", "begin", "()V"⟩ ∈ GT := (List.mem_append_left _ (List.mem_of_getElem? (i := 6) rfl))
theorem gm_7 : Cond.selects "DigestBox$WideSha" ⟨"DigestBox$Sha", "begin", "()V"⟩ ⟨"DigestBox$Sha", "begin", "()V"⟩ ∈ GT := (List.mem_append_left _ (List.mem_of_getElem? (i := 7) rfl))
theorem gm_8 : Cond.selects "DigestBox$NarrowSha" ⟨"DigestBox$Sha", "resume", "([JI)V"⟩ ⟨"DigestBox$Sha", "resume", "([JI)V"⟩ ∈ GT := (List.mem_append_left _ (List.mem_of_getElem? (i := 8) rfl))
theorem gm_9 : Cond.selects "DigestBox$WideSha" ⟨"DigestBox$Sha", "resume", "([JI)V"⟩ ⟨"DigestBox$Sha", "resume", "([JI)V"⟩ ∈ GT := (List.mem_append_left _ (List.mem_of_getElem? (i := 9) rfl))
theorem gm_10 : Cond.selects "DigestBox$NarrowSha" ⟨"DigestBox$Sha", "take", "([BII)V"⟩ ⟨"DigestBox$Sha", "take", "([BII)V"⟩ ∈ GT := (List.mem_append_left _ (List.mem_of_getElem? (i := 10) rfl))
theorem gm_11 : Cond.selects "DigestBox$WideSha" ⟨"DigestBox$Sha", "take", "([BII)V"⟩ ⟨"DigestBox$Sha", "take", "([BII)V"⟩ ∈ GT := (List.mem_append_left _ (List.mem_of_getElem? (i := 11) rfl))
theorem gm_12 : Cond.selects "DigestBox$NarrowSha" ⟨"DigestBox$Sha", "goOverBlock", "()V"⟩ ⟨"DigestBox$Sha", "goOverBlock", "()V"⟩ ∈ GT := (List.mem_append_left _ (List.mem_of_getElem? (i := 12) rfl))
theorem gm_13 : Cond.selects "DigestBox$WideSha" ⟨"DigestBox$Sha", "goOverBlock", "()V"⟩ ⟨"DigestBox$Sha", "goOverBlock", "()V"⟩ ∈ GT := (List.mem_append_left _ (List.mem_of_getElem? (i := 13) rfl))
theorem gm_14 : Cond.selects "DigestBox$NarrowSha" ⟨"DigestBox$Sha", "becomeCopyOf", "(LDigestBox$Sha;)V"⟩ ⟨"DigestBox$Sha", "becomeCopyOf", "(LDigestBox$Sha;)V"⟩ ∈ GT := (List.mem_append_left _ (List.mem_of_getElem? (i := 14) rfl))
theorem gm_15 : Cond.selects "DigestBox$WideSha" ⟨"DigestBox$Sha", "becomeCopyOf", "(LDigestBox$Sha;)V"⟩ ⟨"DigestBox$Sha", "becomeCopyOf", "(LDigestBox$Sha;)V"⟩ ∈ GT := (List.mem_append_left _ (List.mem_of_getElem? (i := 15) rfl))
theorem gm_16 : Cond.selects "DigestBox" ⟨"DigestBox", "roomForResult", "(I)[B"⟩ ⟨"DigestBox", "roomForResult", "(I)[B"⟩ ∈ GT := (List.mem_append_left _ (List.mem_of_getElem? (i := 16) rfl))
theorem gm_17 : Cond.selects "DigestBox$NarrowSha" ⟨"DigestBox$Sha", "close", "([BI)V"⟩ ⟨"DigestBox$Sha", "close", "([BI)V"⟩ ∈ GT := (List.mem_append_left _ (List.mem_of_getElem? (i := 17) rfl))
theorem gm_18 : Cond.selects "DigestBox$WideSha" ⟨"DigestBox$Sha", "close", "([BI)V"⟩ ⟨"DigestBox$Sha", "close", "([BI)V"⟩ ∈ GT := (List.mem_append_left _ (List.mem_of_getElem? (i := 18) rfl))
theorem gm_19 : Cond.selects "DigestBox$NarrowSha" ⟨"DigestBox$Sha", "fillUpWithZeros", "()V"⟩ ⟨"DigestBox$Sha", "fillUpWithZeros", "()V"⟩ ∈ GT := (List.mem_append_left _ (List.mem_of_getElem? (i := 19) rfl))
theorem gm_20 : Cond.selects "DigestBox$WideSha" ⟨"DigestBox$Sha", "fillUpWithZeros", "()V"⟩ ⟨"DigestBox$Sha", "fillUpWithZeros", "()V"⟩ ∈ GT := (List.mem_append_left _ (List.mem_of_getElem? (i := 20) rfl))
theorem gm_21 : Cond.selects "DigestBox$NarrowSha" ⟨"DigestBox$Sha", "writeLengthInBits", "()V"⟩ ⟨"DigestBox$Sha", "writeLengthInBits", "()V"⟩ ∈ GT := (List.mem_append_left _ (List.mem_of_getElem? (i := 21) rfl))
theorem gm_22 : Cond.selects "DigestBox$WideSha" ⟨"DigestBox$Sha", "writeLengthInBits", "()V"⟩ ⟨"DigestBox$Sha", "writeLengthInBits", "()V"⟩ ∈ GT := (List.mem_append_left _ (List.mem_of_getElem? (i := 22) rfl))
theorem gm_23 : Cond.selects "DigestBox$NarrowSha" ⟨"DigestBox$Sha", "writeHash", "([BI)V"⟩ ⟨"DigestBox$Sha", "writeHash", "([BI)V"⟩ ∈ GT := (List.mem_append_left _ (List.mem_of_getElem? (i := 23) rfl))
theorem gm_24 : Cond.selects "DigestBox$WideSha" ⟨"DigestBox$Sha", "writeHash", "([BI)V"⟩ ⟨"DigestBox$Sha", "writeHash", "([BI)V"⟩ ∈ GT := (List.mem_append_left _ (List.mem_of_getElem? (i := 24) rfl))
theorem gm_25 : Cond.selects "DigestBox$Mac" ⟨"DigestBox$Mac", "setKey", "(LDigestBox$Row;)V"⟩ ⟨"DigestBox$Mac", "setKey", "(LDigestBox$Row;)V"⟩ ∈ GT := (List.mem_append_left _ (List.mem_of_getElem? (i := 25) rfl))
theorem gm_26 : Cond.selects "DigestBox$Mac" ⟨"DigestBox$Mac", "fillKeyBlock", "(LDigestBox$Row;)V"⟩ ⟨"DigestBox$Mac", "fillKeyBlock", "(LDigestBox$Row;)V"⟩ ∈ GT := (List.mem_append_left _ (List.mem_of_getElem? (i := 26) rfl))
theorem gm_27 : Cond.selects "DigestBox$Mac" ⟨"DigestBox$Mac", "startWith", "(I[J)V"⟩ ⟨"DigestBox$Mac", "startWith", "(I[J)V"⟩ ∈ GT := (List.mem_append_left _ (List.mem_of_getElem? (i := 27) rfl))
theorem gm_28 : Cond.selects "DigestBox$NarrowSha" ⟨"DigestBox$Sha", "takeByte", "(I)V"⟩ ⟨"DigestBox$Sha", "takeByte", "(I)V"⟩ ∈ GT := (List.mem_append_left _ (List.mem_of_getElem? (i := 28) rfl))
theorem gm_29 : Cond.selects "DigestBox$WideSha" ⟨"DigestBox$Sha", "takeByte", "(I)V"⟩ ⟨"DigestBox$Sha", "takeByte", "(I)V"⟩ ∈ GT := (List.mem_append_left _ (List.mem_of_getElem? (i := 29) rfl))
theorem gm_30 : Cond.selects "DigestBox$Mac" ⟨"DigestBox$Mac", "beginText", "()V"⟩ ⟨"DigestBox$Mac", "beginText", "()V"⟩ ∈ GT := (List.mem_append_left _ (List.mem_of_getElem? (i := 30) rfl))
theorem gm_31 : Cond.selects "DigestBox$Mac" ⟨"DigestBox$Mac", "closeText", "([BI)V"⟩ ⟨"DigestBox$Mac", "closeText", "([BI)V"⟩ ∈ GT := (List.mem_append_left _ (List.mem_of_getElem? (i := 31) rfl))
theorem gm_32 : Cond.selects "DigestBox" ⟨"DigestBox", "checkExpandedLength", "(II)V"⟩ ⟨"DigestBox", "checkExpandedLength", "(II)V"⟩ ∈ GT := (List.mem_append_left _ (List.mem_of_getElem? (i := 32) rfl))
theorem gm_33 : Cond.selects "DigestBox" ⟨"DigestBox", "expandKey", "(LDigestBox$Mac;ILDigestBox$Row;)V"⟩ ⟨"DigestBox", "expandKey", "(LDigestBox$Mac;ILDigestBox$Row;)V"⟩ ∈ GT := (List.mem_append_left _ (List.mem_of_getElem? (i := 33) rfl))
theorem gm_34 : Cond.selects "DigestBox" ⟨"DigestBox", "checkLabelLength", "(I)V"⟩ ⟨"DigestBox", "checkLabelLength", "(I)V"⟩ ∈ GT := (List.mem_append_left _ (List.mem_of_getElem? (i := 34) rfl))
theorem gm_35 : Cond.selects "DigestBox" ⟨"DigestBox", "writeLabelInfo", "(II)V"⟩ ⟨"DigestBox", "writeLabelInfo", "(II)V"⟩ ∈ GT := (List.mem_append_left _ (List.mem_of_getElem? (i := 35) rfl))
theorem gm_36 : Cond.selects "DigestBoxModel" ⟨"DigestBoxModel", "root", "(II)J"⟩ ⟨"DigestBoxModel", "root", "(II)J"⟩ ∈ GT := (List.mem_append_left _ (List.mem_of_getElem? (i := 36) rfl))
theorem gm_37 : Cond.selects "DigestBoxModel" ⟨"DigestBoxModel", "fits", "(JJII)Z"⟩ ⟨"DigestBoxModel", "fits", "(JJII)Z"⟩ ∈ GT := (List.mem_append_left _ (List.mem_of_getElem? (i := 37) rfl))
theorem gm_38 : Cond.selects "DigestBoxModel" ⟨"DigestBoxModel", "times", "(JJ)V"⟩ ⟨"DigestBoxModel", "times", "(JJ)V"⟩ ∈ GT := (List.mem_append_left _ (List.mem_of_getElem? (i := 38) rfl))
theorem gm_39 : Cond.selects "DigestBoxModel" ⟨"DigestBoxModel", "fail", "(I)I"⟩ ⟨"DigestBoxModel", "fail", "(I)I"⟩ ∈ GT := (List.mem_append_left _ (List.mem_of_getElem? (i := 39) rfl))
theorem gm_40 : Cond.selects "DigestBoxModel" ⟨"DigestBoxModel", "hash", "(I[BII)V"⟩ ⟨"DigestBoxModel", "hash", "(I[BII)V"⟩ ∈ GT := (List.mem_append_right _ (List.mem_append_left _ (List.mem_of_getElem? (i := 0) rfl)))
theorem gm_41 : Cond.selects "DigestBoxModel" ⟨"DigestBoxModel", "over", "()V"⟩ ⟨"DigestBoxModel", "over", "()V"⟩ ∈ GT := (List.mem_append_right _ (List.mem_append_left _ (List.mem_of_getElem? (i := 1) rfl)))
theorem gm_42 : Cond.selects "DigestBoxModel" ⟨"DigestBoxModel", "shifted", "(JIII)J"⟩ ⟨"DigestBoxModel", "shifted", "(JIII)J"⟩ ∈ GT := (List.mem_append_right _ (List.mem_append_left _ (List.mem_of_getElem? (i := 2) rfl)))
theorem gm_43 : Cond.selects "DigestBoxModel" ⟨"DigestBoxModel", "turned", "(JI)J"⟩ ⟨"DigestBoxModel", "turned", "(JI)J"⟩ ∈ GT := (List.mem_append_right _ (List.mem_append_left _ (List.mem_of_getElem? (i := 3) rfl)))
theorem gm_44 : Cond.selects "DigestBoxModel" ⟨"DigestBoxModel", "fit", "(J)J"⟩ ⟨"DigestBoxModel", "fit", "(J)J"⟩ ∈ GT := (List.mem_append_right _ (List.mem_append_left _ (List.mem_of_getElem? (i := 4) rfl)))
theorem gm_45 : Cond.selects "DigestBoxModel" ⟨"DigestBoxModel", "mixed", "(JIII)J"⟩ ⟨"DigestBoxModel", "mixed", "(JIII)J"⟩ ∈ GT := (List.mem_append_right _ (List.mem_append_left _ (List.mem_of_getElem? (i := 5) rfl)))
theorem gm_46 : Cond.selects "DigestBoxModel" ⟨"DigestBoxModel", "prepare", "(I)V"⟩ ⟨"DigestBoxModel", "prepare", "(I)V"⟩ ∈ GT := (List.mem_append_right _ (List.mem_append_left _ (List.mem_of_getElem? (i := 6) rfl)))
theorem gm_47 : Cond.selects "DigestBoxModel" ⟨"DigestBoxModel", "keyed", "(II)V"⟩ ⟨"DigestBoxModel", "keyed", "(II)V"⟩ ∈ GT := (List.mem_append_right _ (List.mem_append_left _ (List.mem_of_getElem? (i := 7) rfl)))
theorem gm_48 : Cond.selects "DigestBoxModel" ⟨"DigestBoxModel", "expanded", "(II)I"⟩ ⟨"DigestBoxModel", "expanded", "(II)I"⟩ ∈ GT := (List.mem_append_right _ (List.mem_append_left _ (List.mem_of_getElem? (i := 8) rfl)))
theorem gm_49 : Cond.initialized "DigestBoxLaw" ∈ GT := (List.mem_append_right _ (List.mem_append_left _ (List.mem_of_getElem? (i := 9) rfl)))
theorem gm_50 : Cond.initialized "DigestBox" ∈ GT := (List.mem_append_right _ (List.mem_append_left _ (List.mem_of_getElem? (i := 10) rfl)))
theorem gm_51 : Cond.initialized "DigestBox$Row" ∈ GT := (List.mem_append_right _ (List.mem_append_left _ (List.mem_of_getElem? (i := 11) rfl)))
theorem gm_52 : Cond.initialized "DigestBox$Sha" ∈ GT := (List.mem_append_right _ (List.mem_append_left _ (List.mem_of_getElem? (i := 12) rfl)))
theorem gm_53 : Cond.initialized "DigestBox$NarrowSha" ∈ GT := (List.mem_append_right _ (List.mem_append_left _ (List.mem_of_getElem? (i := 13) rfl)))
theorem gm_54 : Cond.initialized "java/lang/System" ∈ GT := (List.mem_append_right _ (List.mem_append_left _ (List.mem_of_getElem? (i := 14) rfl)))
theorem gm_55 : Cond.initialized "DigestBox$WideSha" ∈ GT := (List.mem_append_right _ (List.mem_append_left _ (List.mem_of_getElem? (i := 15) rfl)))
theorem gm_56 : Cond.initialized "DigestBox$Mac" ∈ GT := (List.mem_append_right _ (List.mem_append_left _ (List.mem_of_getElem? (i := 16) rfl)))
theorem gm_57 : Cond.initialized "DigestBoxModel" ∈ GT := (List.mem_append_right _ (List.mem_append_left _ (List.mem_of_getElem? (i := 17) rfl)))
theorem gm_58 : Cond.initialized "java/lang/Throwable" ∈ GT := (List.mem_append_right _ (List.mem_append_left _ (List.mem_of_getElem? (i := 18) rfl)))
theorem gm_59 : Cond.initialized "java/lang/Exception" ∈ GT := (List.mem_append_right _ (List.mem_append_left _ (List.mem_of_getElem? (i := 19) rfl)))
theorem gm_60 : Cond.initialized "java/lang/RuntimeException" ∈ GT := (List.mem_append_right _ (List.mem_append_left _ (List.mem_of_getElem? (i := 20) rfl)))
theorem gm_61 : Cond.initialized "java/lang/IllegalStateException" ∈ GT := (List.mem_append_right _ (List.mem_append_left _ (List.mem_of_getElem? (i := 21) rfl)))
theorem gm_62 : Cond.initialized "java/lang/Math" ∈ GT := (List.mem_append_right _ (List.mem_append_left _ (List.mem_of_getElem? (i := 22) rfl)))
theorem gm_63 : Cond.initialized "java/util/Arrays" ∈ GT := (List.mem_append_right _ (List.mem_append_left _ (List.mem_of_getElem? (i := 23) rfl)))
theorem gm_64 : Cond.initialized "java/lang/IllegalArgumentException" ∈ GT := (List.mem_append_right _ (List.mem_append_left _ (List.mem_of_getElem? (i := 24) rfl)))
theorem gm_65 : Cond.initialized "java/util/NoSuchElementException" ∈ GT := (List.mem_append_right _ (List.mem_append_left _ (List.mem_of_getElem? (i := 25) rfl)))
theorem gm_66 : Cond.initialized "java/lang/IndexOutOfBoundsException" ∈ GT := (List.mem_append_right _ (List.mem_append_left _ (List.mem_of_getElem? (i := 26) rfl)))
theorem gm_67 : Cond.classLink "DigestBoxLaw" 8 "DigestBox" ∈ GT := (List.mem_append_right _ (List.mem_append_left _ (List.mem_of_getElem? (i := 27) rfl)))
theorem gm_68 : Cond.instantiable "DigestBox" 6 ∈ GT := (List.mem_append_right _ (List.mem_append_left _ (List.mem_of_getElem? (i := 28) rfl)))
theorem gm_69 : Cond.methodLink "DigestBoxLaw" 50 ⟨"DigestBox", "<init>", "()V"⟩ ∈ GT := (List.mem_append_right _ (List.mem_append_left _ (List.mem_of_getElem? (i := 29) rfl)))
theorem gm_70 : Cond.instanceMethod ⟨"DigestBox", "<init>", "()V"⟩ ∈ GT := (List.mem_append_right _ (List.mem_append_left _ (List.mem_of_getElem? (i := 30) rfl)))
theorem gm_71 : Cond.code ⟨"DigestBox", "<init>", "()V"⟩ prog_1_method_1_code 1 none ∈ GT := (List.mem_append_right _ (List.mem_append_left _ (List.mem_of_getElem? (i := 31) rfl)))
theorem gm_72 : Cond.methodLink "DigestBox" 1 ⟨"java/lang/Object", "<init>", "()V"⟩ ∈ GT := (List.mem_append_right _ (List.mem_append_left _ (List.mem_of_getElem? (i := 32) rfl)))
theorem gm_73 : Cond.instanceMethod ⟨"java/lang/Object", "<init>", "()V"⟩ ∈ GT := (List.mem_append_right _ (List.mem_append_left _ (List.mem_of_getElem? (i := 33) rfl)))
theorem gm_74 : Cond.code ⟨"java/lang/Object", "<init>", "()V"⟩ object_method_1_code 1 none ∈ GT := (List.mem_append_right _ (List.mem_append_left _ (List.mem_of_getElem? (i := 34) rfl)))
theorem gm_75 : Cond.classLink "DigestBox" 7 "DigestBox$Row" ∈ GT := (List.mem_append_right _ (List.mem_append_left _ (List.mem_of_getElem? (i := 35) rfl)))
theorem gm_76 : Cond.instantiable "DigestBox$Row" 2 ∈ GT := (List.mem_append_right _ (List.mem_append_left _ (List.mem_of_getElem? (i := 36) rfl)))
theorem gm_77 : Cond.instanceMethod ⟨"DigestBox$Row", "<init>", "()V"⟩ ∈ GT := (List.mem_append_right _ (List.mem_append_left _ (List.mem_of_getElem? (i := 37) rfl)))
theorem gm_78 : Cond.code ⟨"DigestBox$Row", "<init>", "()V"⟩ prog_4_method_1_code 1 none ∈ GT := (List.mem_append_right _ (List.mem_append_left _ (List.mem_of_getElem? (i := 38) rfl)))
theorem gm_79 : Cond.methodLink "DigestBox$Row" 3 ⟨"java/lang/Object", "<init>", "()V"⟩ ∈ GT := (List.mem_append_right _ (List.mem_append_left _ (List.mem_of_getElem? (i := 39) rfl)))
theorem gm_80 : Cond.fieldLink "DigestBox$Row" 9 "DigestBox$Row" "bytes" "[B" ∈ GT := (List.mem_append_right _ (List.mem_append_right _ (List.mem_append_left _ (List.mem_of_getElem? (i := 0) rfl))))
theorem gm_81 : Cond.fieldLink "DigestBox$Row" 27 "DigestBox$Row" "length" "I" ∈ GT := (List.mem_append_right _ (List.mem_append_right _ (List.mem_append_left _ (List.mem_of_getElem? (i := 1) rfl))))
theorem gm_82 : Cond.lays "DigestBox$Row" "DigestBox$Row" "bytes" "[B" ∈ GT := (List.mem_append_right _ (List.mem_append_right _ (List.mem_append_left _ (List.mem_of_getElem? (i := 2) rfl))))
theorem gm_83 : Cond.lays "DigestBox$Row" "DigestBox$Row" "length" "I" ∈ GT := (List.mem_append_right _ (List.mem_append_right _ (List.mem_append_left _ (List.mem_of_getElem? (i := 3) rfl))))
theorem gm_84 : Cond.arrayClass .byte ∈ GT := (List.mem_append_right _ (List.mem_append_right _ (List.mem_append_left _ (List.mem_of_getElem? (i := 4) rfl))))
theorem gm_85 : Cond.classLink "DigestBox" 25 "DigestBox$Sha" ∈ GT := (List.mem_append_right _ (List.mem_append_right _ (List.mem_append_left _ (List.mem_of_getElem? (i := 5) rfl))))
theorem gm_86 : Cond.classLink "DigestBox" 27 "DigestBox$NarrowSha" ∈ GT := (List.mem_append_right _ (List.mem_append_right _ (List.mem_append_left _ (List.mem_of_getElem? (i := 6) rfl))))
theorem gm_87 : Cond.instantiable "DigestBox$NarrowSha" 9 ∈ GT := (List.mem_append_right _ (List.mem_append_right _ (List.mem_append_left _ (List.mem_of_getElem? (i := 7) rfl))))
theorem gm_88 : Cond.fieldLink "DigestBox" 29 "DigestBox" "SHA_256_START" "[J" ∈ GT := (List.mem_append_right _ (List.mem_append_right _ (List.mem_append_left _ (List.mem_of_getElem? (i := 8) rfl))))
theorem gm_89 : Cond.methodLink "DigestBox" 33 ⟨"DigestBox$NarrowSha", "<init>", "([JI)V"⟩ ∈ GT := (List.mem_append_right _ (List.mem_append_right _ (List.mem_append_left _ (List.mem_of_getElem? (i := 9) rfl))))
theorem gm_90 : Cond.instanceMethod ⟨"DigestBox$NarrowSha", "<init>", "([JI)V"⟩ ∈ GT := (List.mem_append_right _ (List.mem_append_right _ (List.mem_append_left _ (List.mem_of_getElem? (i := 10) rfl))))
theorem gm_91 : Cond.code ⟨"DigestBox$NarrowSha", "<init>", "([JI)V"⟩ prog_3_method_1_code 3 none ∈ GT := (List.mem_append_right _ (List.mem_append_right _ (List.mem_append_left _ (List.mem_of_getElem? (i := 11) rfl))))
theorem gm_92 : Cond.methodLink "DigestBox$NarrowSha" 1 ⟨"DigestBox$Sha", "<init>", "([JII)V"⟩ ∈ GT := (List.mem_append_right _ (List.mem_append_right _ (List.mem_append_left _ (List.mem_of_getElem? (i := 12) rfl))))
theorem gm_93 : Cond.instanceMethod ⟨"DigestBox$Sha", "<init>", "([JII)V"⟩ ∈ GT := (List.mem_append_right _ (List.mem_append_right _ (List.mem_append_left _ (List.mem_of_getElem? (i := 13) rfl))))
theorem gm_94 : Cond.code ⟨"DigestBox$Sha", "<init>", "([JII)V"⟩ prog_5_method_1_code 4 none ∈ GT := (List.mem_append_right _ (List.mem_append_right _ (List.mem_append_left _ (List.mem_of_getElem? (i := 14) rfl))))
theorem gm_95 : Cond.methodLink "DigestBox$Sha" 1 ⟨"java/lang/Object", "<init>", "()V"⟩ ∈ GT := (List.mem_append_right _ (List.mem_append_right _ (List.mem_append_left _ (List.mem_of_getElem? (i := 15) rfl))))
theorem gm_96 : Cond.methodLink "DigestBox$Sha" 27 ⟨"java/lang/System", "arraycopy", "(Ljava/lang/Object;ILjava/lang/Object;II)V"⟩ ∈ GT := (List.mem_append_right _ (List.mem_append_right _ (List.mem_append_left _ (List.mem_of_getElem? (i := 16) rfl))))
theorem gm_97 : Cond.static ⟨"java/lang/System", "arraycopy", "(Ljava/lang/Object;ILjava/lang/Object;II)V"⟩ ∈ GT := (List.mem_append_right _ (List.mem_append_right _ (List.mem_append_left _ (List.mem_of_getElem? (i := 17) rfl))))
theorem gm_98 : Cond.native ⟨"java/lang/System", "arraycopy", "(Ljava/lang/Object;ILjava/lang/Object;II)V"⟩ ∈ GT := (List.mem_append_right _ (List.mem_append_right _ (List.mem_append_left _ (List.mem_of_getElem? (i := 18) rfl))))
theorem gm_99 : Cond.fieldLink "DigestBox$NarrowSha" 7 "DigestBox$NarrowSha" "schedule" "[I" ∈ GT := (List.mem_append_right _ (List.mem_append_right _ (List.mem_append_left _ (List.mem_of_getElem? (i := 19) rfl))))
theorem gm_100 : Cond.fieldLink "DigestBox$Sha" 7 "DigestBox$Sha" "state" "[J" ∈ GT := (List.mem_append_right _ (List.mem_append_right _ (List.mem_append_left _ (List.mem_of_getElem? (i := 20) rfl))))
theorem gm_101 : Cond.fieldLink "DigestBox$NarrowSha" 13 "DigestBox$NarrowSha" "state" "[J" ∈ GT := (List.mem_append_right _ (List.mem_append_right _ (List.mem_append_left _ (List.mem_of_getElem? (i := 21) rfl))))
theorem gm_102 : Cond.sameField "DigestBox$NarrowSha" "DigestBox$Sha" "state" "[J" ∈ GT := (List.mem_append_right _ (List.mem_append_right _ (List.mem_append_left _ (List.mem_of_getElem? (i := 22) rfl))))
theorem gm_103 : Cond.fieldLink "DigestBox$WideSha" 13 "DigestBox$WideSha" "state" "[J" ∈ GT := (List.mem_append_right _ (List.mem_append_right _ (List.mem_append_left _ (List.mem_of_getElem? (i := 23) rfl))))
theorem gm_104 : Cond.sameField "DigestBox$WideSha" "DigestBox$Sha" "state" "[J" ∈ GT := (List.mem_append_right _ (List.mem_append_right _ (List.mem_append_left _ (List.mem_of_getElem? (i := 24) rfl))))
theorem gm_105 : Cond.fieldLink "DigestBox$Mac" 85 "DigestBox$Sha" "state" "[J" ∈ GT := (List.mem_append_right _ (List.mem_append_right _ (List.mem_append_left _ (List.mem_of_getElem? (i := 25) rfl))))
theorem gm_106 : Cond.fieldLink "DigestBox$Mac" 20 "DigestBox$Sha" "block" "[B" ∈ GT := (List.mem_append_right _ (List.mem_append_right _ (List.mem_append_left _ (List.mem_of_getElem? (i := 26) rfl))))
theorem gm_107 : Cond.fieldLink "DigestBox$Sha" 23 "DigestBox$Sha" "block" "[B" ∈ GT := (List.mem_append_right _ (List.mem_append_right _ (List.mem_append_left _ (List.mem_of_getElem? (i := 27) rfl))))
theorem gm_108 : Cond.fieldLink "DigestBox$NarrowSha" 27 "DigestBox$NarrowSha" "block" "[B" ∈ GT := (List.mem_append_right _ (List.mem_append_right _ (List.mem_append_left _ (List.mem_of_getElem? (i := 28) rfl))))
theorem gm_109 : Cond.sameField "DigestBox$NarrowSha" "DigestBox$Sha" "block" "[B" ∈ GT := (List.mem_append_right _ (List.mem_append_right _ (List.mem_append_left _ (List.mem_of_getElem? (i := 29) rfl))))
theorem gm_110 : Cond.fieldLink "DigestBox$WideSha" 28 "DigestBox$WideSha" "block" "[B" ∈ GT := (List.mem_append_right _ (List.mem_append_right _ (List.mem_append_left _ (List.mem_of_getElem? (i := 30) rfl))))
theorem gm_111 : Cond.sameField "DigestBox$WideSha" "DigestBox$Sha" "block" "[B" ∈ GT := (List.mem_append_right _ (List.mem_append_right _ (List.mem_append_left _ (List.mem_of_getElem? (i := 31) rfl))))
theorem gm_112 : Cond.fieldLink "DigestBox$Sha" 20 "DigestBox$Sha" "hashBytes" "I" ∈ GT := (List.mem_append_right _ (List.mem_append_right _ (List.mem_append_left _ (List.mem_of_getElem? (i := 32) rfl))))
theorem gm_113 : Cond.fieldLink "DigestBox$Mac" 29 "DigestBox$Sha" "hashBytes" "I" ∈ GT := (List.mem_append_right _ (List.mem_append_right _ (List.mem_append_left _ (List.mem_of_getElem? (i := 33) rfl))))
theorem gm_114 : Cond.fieldLink "DigestBox" 98 "DigestBox$Sha" "hashBytes" "I" ∈ GT := (List.mem_append_right _ (List.mem_append_right _ (List.mem_append_left _ (List.mem_of_getElem? (i := 34) rfl))))
theorem gm_115 : Cond.fieldLink "DigestBox$Sha" 13 "DigestBox$Sha" "start" "[J" ∈ GT := (List.mem_append_right _ (List.mem_append_right _ (List.mem_append_left _ (List.mem_of_getElem? (i := 35) rfl))))
theorem gm_116 : Cond.fieldLink "DigestBox$Sha" 16 "DigestBox$Sha" "wordBytes" "I" ∈ GT := (List.mem_append_right _ (List.mem_append_right _ (List.mem_append_left _ (List.mem_of_getElem? (i := 36) rfl))))
theorem gm_117 : Cond.fieldLink "DigestBox$Sha" 37 "DigestBox$Sha" "filled" "I" ∈ GT := (List.mem_append_right _ (List.mem_append_right _ (List.mem_append_left _ (List.mem_of_getElem? (i := 37) rfl))))
theorem gm_118 : Cond.fieldLink "DigestBox$Sha" 40 "DigestBox$Sha" "total" "J" ∈ GT := (List.mem_append_right _ (List.mem_append_right _ (List.mem_append_left _ (List.mem_of_getElem? (i := 38) rfl))))
theorem gm_119 : Cond.fieldLink "DigestBox$Sha" 53 "DigestBox$Sha" "blocks" "I" ∈ GT := (List.mem_append_right _ (List.mem_append_right _ (List.mem_append_left _ (List.mem_of_getElem? (i := 39) rfl))))
theorem gm_120 : Cond.laysFinal "DigestBox$NarrowSha" "DigestBox$NarrowSha" "schedule" "[I" ∈ GT := (List.mem_append_right _ (List.mem_append_right _ (List.mem_append_right _ (List.mem_append_left _ (List.mem_of_getElem? (i := 0) rfl)))))
theorem gm_121 : Cond.laysFinal "DigestBox$NarrowSha" "DigestBox$Sha" "state" "[J" ∈ GT := (List.mem_append_right _ (List.mem_append_right _ (List.mem_append_right _ (List.mem_append_left _ (List.mem_of_getElem? (i := 1) rfl)))))
theorem gm_122 : Cond.laysFinal "DigestBox$NarrowSha" "DigestBox$Sha" "block" "[B" ∈ GT := (List.mem_append_right _ (List.mem_append_right _ (List.mem_append_right _ (List.mem_append_left _ (List.mem_of_getElem? (i := 2) rfl)))))
theorem gm_123 : Cond.laysFinal "DigestBox$NarrowSha" "DigestBox$Sha" "hashBytes" "I" ∈ GT := (List.mem_append_right _ (List.mem_append_right _ (List.mem_append_right _ (List.mem_append_left _ (List.mem_of_getElem? (i := 3) rfl)))))
theorem gm_124 : Cond.laysFinal "DigestBox$NarrowSha" "DigestBox$Sha" "start" "[J" ∈ GT := (List.mem_append_right _ (List.mem_append_right _ (List.mem_append_right _ (List.mem_append_left _ (List.mem_of_getElem? (i := 4) rfl)))))
theorem gm_125 : Cond.laysFinal "DigestBox$NarrowSha" "DigestBox$Sha" "wordBytes" "I" ∈ GT := (List.mem_append_right _ (List.mem_append_right _ (List.mem_append_right _ (List.mem_append_left _ (List.mem_of_getElem? (i := 5) rfl)))))
theorem gm_126 : Cond.lays "DigestBox$NarrowSha" "DigestBox$Sha" "filled" "I" ∈ GT := (List.mem_append_right _ (List.mem_append_right _ (List.mem_append_right _ (List.mem_append_left _ (List.mem_of_getElem? (i := 6) rfl)))))
theorem gm_127 : Cond.lays "DigestBox$NarrowSha" "DigestBox$Sha" "total" "J" ∈ GT := (List.mem_append_right _ (List.mem_append_right _ (List.mem_append_right _ (List.mem_append_left _ (List.mem_of_getElem? (i := 7) rfl)))))
theorem gm_128 : Cond.lays "DigestBox$NarrowSha" "DigestBox$Sha" "blocks" "I" ∈ GT := (List.mem_append_right _ (List.mem_append_right _ (List.mem_append_right _ (List.mem_append_left _ (List.mem_of_getElem? (i := 8) rfl)))))
theorem gm_129 : Cond.arrayClass .long ∈ GT := (List.mem_append_right _ (List.mem_append_right _ (List.mem_append_right _ (List.mem_append_left _ (List.mem_of_getElem? (i := 9) rfl)))))
theorem gm_130 : Cond.arrayClass .int ∈ GT := (List.mem_append_right _ (List.mem_append_right _ (List.mem_append_right _ (List.mem_append_left _ (List.mem_of_getElem? (i := 10) rfl)))))
theorem gm_131 : Cond.classLink "DigestBox" 36 "DigestBox$WideSha" ∈ GT := (List.mem_append_right _ (List.mem_append_right _ (List.mem_append_right _ (List.mem_append_left _ (List.mem_of_getElem? (i := 11) rfl)))))
theorem gm_132 : Cond.instantiable "DigestBox$WideSha" 9 ∈ GT := (List.mem_append_right _ (List.mem_append_right _ (List.mem_append_right _ (List.mem_append_left _ (List.mem_of_getElem? (i := 12) rfl)))))
theorem gm_133 : Cond.fieldLink "DigestBox" 38 "DigestBox" "SHA_384_START" "[J" ∈ GT := (List.mem_append_right _ (List.mem_append_right _ (List.mem_append_right _ (List.mem_append_left _ (List.mem_of_getElem? (i := 13) rfl)))))
theorem gm_134 : Cond.methodLink "DigestBox" 41 ⟨"DigestBox$WideSha", "<init>", "([JI)V"⟩ ∈ GT := (List.mem_append_right _ (List.mem_append_right _ (List.mem_append_right _ (List.mem_append_left _ (List.mem_of_getElem? (i := 14) rfl)))))
theorem gm_135 : Cond.instanceMethod ⟨"DigestBox$WideSha", "<init>", "([JI)V"⟩ ∈ GT := (List.mem_append_right _ (List.mem_append_right _ (List.mem_append_right _ (List.mem_append_left _ (List.mem_of_getElem? (i := 15) rfl)))))
theorem gm_136 : Cond.code ⟨"DigestBox$WideSha", "<init>", "([JI)V"⟩ prog_6_method_1_code 3 none ∈ GT := (List.mem_append_right _ (List.mem_append_right _ (List.mem_append_right _ (List.mem_append_left _ (List.mem_of_getElem? (i := 16) rfl)))))
theorem gm_137 : Cond.methodLink "DigestBox$WideSha" 1 ⟨"DigestBox$Sha", "<init>", "([JII)V"⟩ ∈ GT := (List.mem_append_right _ (List.mem_append_right _ (List.mem_append_right _ (List.mem_append_left _ (List.mem_of_getElem? (i := 17) rfl)))))
theorem gm_138 : Cond.fieldLink "DigestBox$WideSha" 7 "DigestBox$WideSha" "schedule" "[J" ∈ GT := (List.mem_append_right _ (List.mem_append_right _ (List.mem_append_right _ (List.mem_append_left _ (List.mem_of_getElem? (i := 18) rfl)))))
theorem gm_139 : Cond.laysFinal "DigestBox$WideSha" "DigestBox$WideSha" "schedule" "[J" ∈ GT := (List.mem_append_right _ (List.mem_append_right _ (List.mem_append_right _ (List.mem_append_left _ (List.mem_of_getElem? (i := 19) rfl)))))
theorem gm_140 : Cond.laysFinal "DigestBox$WideSha" "DigestBox$Sha" "state" "[J" ∈ GT := (List.mem_append_right _ (List.mem_append_right _ (List.mem_append_right _ (List.mem_append_left _ (List.mem_of_getElem? (i := 20) rfl)))))
theorem gm_141 : Cond.laysFinal "DigestBox$WideSha" "DigestBox$Sha" "block" "[B" ∈ GT := (List.mem_append_right _ (List.mem_append_right _ (List.mem_append_right _ (List.mem_append_left _ (List.mem_of_getElem? (i := 21) rfl)))))
theorem gm_142 : Cond.laysFinal "DigestBox$WideSha" "DigestBox$Sha" "hashBytes" "I" ∈ GT := (List.mem_append_right _ (List.mem_append_right _ (List.mem_append_right _ (List.mem_append_left _ (List.mem_of_getElem? (i := 22) rfl)))))
theorem gm_143 : Cond.laysFinal "DigestBox$WideSha" "DigestBox$Sha" "start" "[J" ∈ GT := (List.mem_append_right _ (List.mem_append_right _ (List.mem_append_right _ (List.mem_append_left _ (List.mem_of_getElem? (i := 23) rfl)))))
theorem gm_144 : Cond.laysFinal "DigestBox$WideSha" "DigestBox$Sha" "wordBytes" "I" ∈ GT := (List.mem_append_right _ (List.mem_append_right _ (List.mem_append_right _ (List.mem_append_left _ (List.mem_of_getElem? (i := 24) rfl)))))
theorem gm_145 : Cond.lays "DigestBox$WideSha" "DigestBox$Sha" "filled" "I" ∈ GT := (List.mem_append_right _ (List.mem_append_right _ (List.mem_append_right _ (List.mem_append_left _ (List.mem_of_getElem? (i := 25) rfl)))))
theorem gm_146 : Cond.lays "DigestBox$WideSha" "DigestBox$Sha" "total" "J" ∈ GT := (List.mem_append_right _ (List.mem_append_right _ (List.mem_append_right _ (List.mem_append_left _ (List.mem_of_getElem? (i := 26) rfl)))))
theorem gm_147 : Cond.lays "DigestBox$WideSha" "DigestBox$Sha" "blocks" "I" ∈ GT := (List.mem_append_right _ (List.mem_append_right _ (List.mem_append_right _ (List.mem_append_left _ (List.mem_of_getElem? (i := 27) rfl)))))
theorem gm_148 : Cond.fieldLink "DigestBox" 42 "DigestBox" "SHA_512_START" "[J" ∈ GT := (List.mem_append_right _ (List.mem_append_right _ (List.mem_append_right _ (List.mem_append_left _ (List.mem_of_getElem? (i := 28) rfl)))))
theorem gm_149 : Cond.classLink "DigestBox" 49 "DigestBox$Mac" ∈ GT := (List.mem_append_right _ (List.mem_append_right _ (List.mem_append_right _ (List.mem_append_left _ (List.mem_of_getElem? (i := 29) rfl)))))
theorem gm_150 : Cond.instantiable "DigestBox$Mac" 6 ∈ GT := (List.mem_append_right _ (List.mem_append_right _ (List.mem_append_right _ (List.mem_append_left _ (List.mem_of_getElem? (i := 30) rfl)))))
theorem gm_151 : Cond.methodLink "DigestBox" 51 ⟨"DigestBox$Mac", "<init>", "(LDigestBox$Sha;)V"⟩ ∈ GT := (List.mem_append_right _ (List.mem_append_right _ (List.mem_append_right _ (List.mem_append_left _ (List.mem_of_getElem? (i := 31) rfl)))))
theorem gm_152 : Cond.instanceMethod ⟨"DigestBox$Mac", "<init>", "(LDigestBox$Sha;)V"⟩ ∈ GT := (List.mem_append_right _ (List.mem_append_right _ (List.mem_append_right _ (List.mem_append_left _ (List.mem_of_getElem? (i := 32) rfl)))))
theorem gm_153 : Cond.code ⟨"DigestBox$Mac", "<init>", "(LDigestBox$Sha;)V"⟩ prog_2_method_1_code 2 none ∈ GT := (List.mem_append_right _ (List.mem_append_right _ (List.mem_append_right _ (List.mem_append_left _ (List.mem_of_getElem? (i := 33) rfl)))))
theorem gm_154 : Cond.methodLink "DigestBox$Mac" 1 ⟨"java/lang/Object", "<init>", "()V"⟩ ∈ GT := (List.mem_append_right _ (List.mem_append_right _ (List.mem_append_right _ (List.mem_append_left _ (List.mem_of_getElem? (i := 34) rfl)))))
theorem gm_155 : Cond.fieldLink "DigestBox$Mac" 16 "DigestBox$Mac" "sha" "LDigestBox$Sha;" ∈ GT := (List.mem_append_right _ (List.mem_append_right _ (List.mem_append_right _ (List.mem_append_left _ (List.mem_of_getElem? (i := 35) rfl)))))
theorem gm_156 : Cond.fieldLink "DigestBox$Mac" 26 "DigestBox$Mac" "keyBlock" "[B" ∈ GT := (List.mem_append_right _ (List.mem_append_right _ (List.mem_append_right _ (List.mem_append_left _ (List.mem_of_getElem? (i := 36) rfl)))))
theorem gm_157 : Cond.fieldLink "DigestBox$Mac" 33 "DigestBox$Mac" "innerHash" "[B" ∈ GT := (List.mem_append_right _ (List.mem_append_right _ (List.mem_append_right _ (List.mem_append_left _ (List.mem_of_getElem? (i := 37) rfl)))))
theorem gm_158 : Cond.fieldLink "DigestBox$Mac" 7 "DigestBox$Mac" "innerStart" "[J" ∈ GT := (List.mem_append_right _ (List.mem_append_right _ (List.mem_append_right _ (List.mem_append_left _ (List.mem_of_getElem? (i := 38) rfl)))))
theorem gm_159 : Cond.fieldLink "DigestBox$Mac" 13 "DigestBox$Mac" "outerStart" "[J" ∈ GT := (List.mem_append_right _ (List.mem_append_right _ (List.mem_append_right _ (List.mem_append_left _ (List.mem_of_getElem? (i := 39) rfl)))))
theorem gm_160 : Cond.fieldLink "DigestBox$Mac" 47 "DigestBox$Mac" "keyBlocks" "I" ∈ GT := (List.mem_append_right _ (List.mem_append_right _ (List.mem_append_right _ (List.mem_append_right _ (List.mem_append_left _ (List.mem_of_getElem? (i := 0) rfl))))))
theorem gm_161 : Cond.laysFinal "DigestBox$Mac" "DigestBox$Mac" "sha" "LDigestBox$Sha;" ∈ GT := (List.mem_append_right _ (List.mem_append_right _ (List.mem_append_right _ (List.mem_append_right _ (List.mem_append_left _ (List.mem_of_getElem? (i := 1) rfl))))))
theorem gm_162 : Cond.laysFinal "DigestBox$Mac" "DigestBox$Mac" "keyBlock" "[B" ∈ GT := (List.mem_append_right _ (List.mem_append_right _ (List.mem_append_right _ (List.mem_append_right _ (List.mem_append_left _ (List.mem_of_getElem? (i := 2) rfl))))))
theorem gm_163 : Cond.laysFinal "DigestBox$Mac" "DigestBox$Mac" "innerHash" "[B" ∈ GT := (List.mem_append_right _ (List.mem_append_right _ (List.mem_append_right _ (List.mem_append_right _ (List.mem_append_left _ (List.mem_of_getElem? (i := 3) rfl))))))
theorem gm_164 : Cond.laysFinal "DigestBox$Mac" "DigestBox$Mac" "innerStart" "[J" ∈ GT := (List.mem_append_right _ (List.mem_append_right _ (List.mem_append_right _ (List.mem_append_right _ (List.mem_append_left _ (List.mem_of_getElem? (i := 4) rfl))))))
theorem gm_165 : Cond.laysFinal "DigestBox$Mac" "DigestBox$Mac" "outerStart" "[J" ∈ GT := (List.mem_append_right _ (List.mem_append_right _ (List.mem_append_right _ (List.mem_append_right _ (List.mem_append_left _ (List.mem_of_getElem? (i := 5) rfl))))))
theorem gm_166 : Cond.lays "DigestBox$Mac" "DigestBox$Mac" "keyBlocks" "I" ∈ GT := (List.mem_append_right _ (List.mem_append_right _ (List.mem_append_right _ (List.mem_append_right _ (List.mem_append_left _ (List.mem_of_getElem? (i := 6) rfl))))))
theorem gm_167 : Cond.fieldLink "DigestBox" 10 "DigestBox" "tape" "LDigestBox$Row;" ∈ GT := (List.mem_append_right _ (List.mem_append_right _ (List.mem_append_right _ (List.mem_append_right _ (List.mem_append_left _ (List.mem_of_getElem? (i := 7) rfl))))))
theorem gm_168 : Cond.fieldLink "DigestBox" 16 "DigestBox" "secret" "LDigestBox$Row;" ∈ GT := (List.mem_append_right _ (List.mem_append_right _ (List.mem_append_right _ (List.mem_append_right _ (List.mem_append_left _ (List.mem_of_getElem? (i := 8) rfl))))))
theorem gm_169 : Cond.fieldLink "DigestBox" 19 "DigestBox" "outcome" "LDigestBox$Row;" ∈ GT := (List.mem_append_right _ (List.mem_append_right _ (List.mem_append_right _ (List.mem_append_right _ (List.mem_append_left _ (List.mem_of_getElem? (i := 9) rfl))))))
theorem gm_170 : Cond.fieldLink "DigestBox" 22 "DigestBox" "labelInfo" "LDigestBox$Row;" ∈ GT := (List.mem_append_right _ (List.mem_append_right _ (List.mem_append_right _ (List.mem_append_right _ (List.mem_append_left _ (List.mem_of_getElem? (i := 10) rfl))))))
theorem gm_171 : Cond.fieldLink "DigestBox" 45 "DigestBox" "runs" "[LDigestBox$Sha;" ∈ GT := (List.mem_append_right _ (List.mem_append_right _ (List.mem_append_right _ (List.mem_append_right _ (List.mem_append_left _ (List.mem_of_getElem? (i := 11) rfl))))))
theorem gm_172 : Cond.fieldLink "DigestBox" 54 "DigestBox" "macs" "[LDigestBox$Mac;" ∈ GT := (List.mem_append_right _ (List.mem_append_right _ (List.mem_append_right _ (List.mem_append_right _ (List.mem_append_left _ (List.mem_of_getElem? (i := 12) rfl))))))
theorem gm_173 : Cond.laysFinal "DigestBox" "DigestBox" "tape" "LDigestBox$Row;" ∈ GT := (List.mem_append_right _ (List.mem_append_right _ (List.mem_append_right _ (List.mem_append_right _ (List.mem_append_left _ (List.mem_of_getElem? (i := 13) rfl))))))
theorem gm_174 : Cond.laysFinal "DigestBox" "DigestBox" "secret" "LDigestBox$Row;" ∈ GT := (List.mem_append_right _ (List.mem_append_right _ (List.mem_append_right _ (List.mem_append_right _ (List.mem_append_left _ (List.mem_of_getElem? (i := 14) rfl))))))
theorem gm_175 : Cond.laysFinal "DigestBox" "DigestBox" "outcome" "LDigestBox$Row;" ∈ GT := (List.mem_append_right _ (List.mem_append_right _ (List.mem_append_right _ (List.mem_append_right _ (List.mem_append_left _ (List.mem_of_getElem? (i := 15) rfl))))))
theorem gm_176 : Cond.laysFinal "DigestBox" "DigestBox" "labelInfo" "LDigestBox$Row;" ∈ GT := (List.mem_append_right _ (List.mem_append_right _ (List.mem_append_right _ (List.mem_append_right _ (List.mem_append_left _ (List.mem_of_getElem? (i := 16) rfl))))))
theorem gm_177 : Cond.laysFinal "DigestBox" "DigestBox" "runs" "[LDigestBox$Sha;" ∈ GT := (List.mem_append_right _ (List.mem_append_right _ (List.mem_append_right _ (List.mem_append_right _ (List.mem_append_left _ (List.mem_of_getElem? (i := 17) rfl))))))
theorem gm_178 : Cond.laysFinal "DigestBox" "DigestBox" "macs" "[LDigestBox$Mac;" ∈ GT := (List.mem_append_right _ (List.mem_append_right _ (List.mem_append_right _ (List.mem_append_right _ (List.mem_append_left _ (List.mem_of_getElem? (i := 18) rfl))))))
theorem gm_179 : Cond.methodLink "DigestBoxLaw" 78 ⟨"DigestBox", "key", "()I"⟩ ∈ GT := (List.mem_append_right _ (List.mem_append_right _ (List.mem_append_right _ (List.mem_append_right _ (List.mem_append_left _ (List.mem_of_getElem? (i := 19) rfl))))))
theorem gm_180 : Cond.instanceMethod ⟨"DigestBox", "key", "()I"⟩ ∈ GT := (List.mem_append_right _ (List.mem_append_right _ (List.mem_append_right _ (List.mem_append_right _ (List.mem_append_left _ (List.mem_of_getElem? (i := 20) rfl))))))
theorem gm_181 : Cond.selects "DigestBox" ⟨"DigestBox", "key", "()I"⟩ ⟨"DigestBox", "key", "()I"⟩ ∈ GT := (List.mem_append_right _ (List.mem_append_right _ (List.mem_append_right _ (List.mem_append_right _ (List.mem_append_left _ (List.mem_of_getElem? (i := 21) rfl))))))
theorem gm_182 : Cond.code ⟨"DigestBox", "key", "()I"⟩ prog_1_method_7_code 1 (some .int) ∈ GT := (List.mem_append_right _ (List.mem_append_right _ (List.mem_append_right _ (List.mem_append_right _ (List.mem_append_left _ (List.mem_of_getElem? (i := 22) rfl))))))
theorem gm_183 : Cond.instanceMethod ⟨"DigestBox$Row", "becomeCopyOf", "(LDigestBox$Row;)V"⟩ ∈ GT := (List.mem_append_right _ (List.mem_append_right _ (List.mem_append_right _ (List.mem_append_right _ (List.mem_append_left _ (List.mem_of_getElem? (i := 23) rfl))))))
theorem gm_184 : Cond.code ⟨"DigestBox$Row", "becomeCopyOf", "(LDigestBox$Row;)V"⟩ prog_4_method_6_code 2 none ∈ GT := (List.mem_append_right _ (List.mem_append_right _ (List.mem_append_right _ (List.mem_append_right _ (List.mem_append_left _ (List.mem_of_getElem? (i := 24) rfl))))))
theorem gm_185 : Cond.methodLink "DigestBox$Row" 44 ⟨"DigestBox$Row", "append", "([BII)V"⟩ ∈ GT := (List.mem_append_right _ (List.mem_append_right _ (List.mem_append_right _ (List.mem_append_right _ (List.mem_append_left _ (List.mem_of_getElem? (i := 25) rfl))))))
theorem gm_186 : Cond.instanceMethod ⟨"DigestBox$Row", "append", "([BII)V"⟩ ∈ GT := (List.mem_append_right _ (List.mem_append_right _ (List.mem_append_right _ (List.mem_append_right _ (List.mem_append_left _ (List.mem_of_getElem? (i := 26) rfl))))))
theorem gm_187 : Cond.code ⟨"DigestBox$Row", "append", "([BII)V"⟩ prog_4_method_5_code 4 none ∈ GT := (List.mem_append_right _ (List.mem_append_right _ (List.mem_append_right _ (List.mem_append_right _ (List.mem_append_left _ (List.mem_of_getElem? (i := 27) rfl))))))
theorem gm_188 : Cond.methodLink "DigestBox$Row" 31 ⟨"DigestBox$Row", "makeRoom", "(I)V"⟩ ∈ GT := (List.mem_append_right _ (List.mem_append_right _ (List.mem_append_right _ (List.mem_append_right _ (List.mem_append_left _ (List.mem_of_getElem? (i := 28) rfl))))))
theorem gm_189 : Cond.instanceMethod ⟨"DigestBox$Row", "makeRoom", "(I)V"⟩ ∈ GT := (List.mem_append_right _ (List.mem_append_right _ (List.mem_append_right _ (List.mem_append_right _ (List.mem_append_left _ (List.mem_of_getElem? (i := 29) rfl))))))
theorem gm_190 : Cond.code ⟨"DigestBox$Row", "makeRoom", "(I)V"⟩ prog_4_method_2_code 2 none ∈ GT := (List.mem_append_right _ (List.mem_append_right _ (List.mem_append_right _ (List.mem_append_right _ (List.mem_append_left _ (List.mem_of_getElem? (i := 30) rfl))))))
theorem gm_191 : Cond.methodLink "DigestBox$Row" 15 ⟨"java/lang/Math", "max", "(II)I"⟩ ∈ GT := (List.mem_append_right _ (List.mem_append_right _ (List.mem_append_right _ (List.mem_append_right _ (List.mem_append_left _ (List.mem_of_getElem? (i := 31) rfl))))))
theorem gm_192 : Cond.static ⟨"java/lang/Math", "max", "(II)I"⟩ ∈ GT := (List.mem_append_right _ (List.mem_append_right _ (List.mem_append_right _ (List.mem_append_right _ (List.mem_append_left _ (List.mem_of_getElem? (i := 32) rfl))))))
theorem gm_193 : Cond.code ⟨"java/lang/Math", "max", "(II)I"⟩ prog_17_method_65_code 2 (some .int) ∈ GT := (List.mem_append_right _ (List.mem_append_right _ (List.mem_append_right _ (List.mem_append_right _ (List.mem_append_left _ (List.mem_of_getElem? (i := 33) rfl))))))
theorem gm_194 : Cond.methodLink "DigestBox$Row" 21 ⟨"java/util/Arrays", "copyOf", "([BI)[B"⟩ ∈ GT := (List.mem_append_right _ (List.mem_append_right _ (List.mem_append_right _ (List.mem_append_right _ (List.mem_append_left _ (List.mem_of_getElem? (i := 34) rfl))))))
theorem gm_195 : Cond.static ⟨"java/util/Arrays", "copyOf", "([BI)[B"⟩ ∈ GT := (List.mem_append_right _ (List.mem_append_right _ (List.mem_append_right _ (List.mem_append_right _ (List.mem_append_left _ (List.mem_of_getElem? (i := 35) rfl))))))
theorem gm_196 : Cond.code ⟨"java/util/Arrays", "copyOf", "([BI)[B"⟩ prog_25_method_121_code 3 (some (.array .byte)) ∈ GT := (List.mem_append_right _ (List.mem_append_right _ (List.mem_append_right _ (List.mem_append_right _ (List.mem_append_left _ (List.mem_of_getElem? (i := 36) rfl))))))
theorem gm_197 : Cond.native ⟨"java/lang/Object", "clone", "()Ljava/lang/Object;"⟩ ∈ GT := (List.mem_append_right _ (List.mem_append_right _ (List.mem_append_right _ (List.mem_append_right _ (List.mem_append_left _ (List.mem_of_getElem? (i := 37) rfl))))))
theorem gm_198 : Cond.instanceMethod ⟨"java/lang/Object", "clone", "()Ljava/lang/Object;"⟩ ∈ GT := (List.mem_append_right _ (List.mem_append_right _ (List.mem_append_right _ (List.mem_append_right _ (List.mem_append_left _ (List.mem_of_getElem? (i := 38) rfl))))))
theorem gm_199 : Cond.classLink "java/util/Arrays" 311 "[B" ∈ GT := (List.mem_append_right _ (List.mem_append_right _ (List.mem_append_right _ (List.mem_append_right _ (List.mem_append_left _ (List.mem_of_getElem? (i := 39) rfl))))))
theorem gm_200 : Cond.methodLink "java/util/Arrays" 304 ⟨"java/lang/Math", "min", "(II)I"⟩ ∈ GT := (List.mem_append_right _ (List.mem_append_right _ (List.mem_append_right _ (List.mem_append_right _ (List.mem_append_right _ (List.mem_append_left _ (List.mem_of_getElem? (i := 0) rfl)))))))
theorem gm_201 : Cond.static ⟨"java/lang/Math", "min", "(II)I"⟩ ∈ GT := (List.mem_append_right _ (List.mem_append_right _ (List.mem_append_right _ (List.mem_append_right _ (List.mem_append_right _ (List.mem_append_left _ (List.mem_of_getElem? (i := 1) rfl)))))))
theorem gm_202 : Cond.code ⟨"java/lang/Math", "min", "(II)I"⟩ prog_17_method_69_code 2 (some .int) ∈ GT := (List.mem_append_right _ (List.mem_append_right _ (List.mem_append_right _ (List.mem_append_right _ (List.mem_append_right _ (List.mem_append_left _ (List.mem_of_getElem? (i := 2) rfl)))))))
theorem gm_203 : Cond.methodLink "java/util/Arrays" 150 ⟨"java/lang/System", "arraycopy", "(Ljava/lang/Object;ILjava/lang/Object;II)V"⟩ ∈ GT := (List.mem_append_right _ (List.mem_append_right _ (List.mem_append_right _ (List.mem_append_right _ (List.mem_append_right _ (List.mem_append_left _ (List.mem_of_getElem? (i := 3) rfl)))))))
theorem gm_204 : Cond.methodLink "DigestBox$Row" 38 ⟨"java/lang/System", "arraycopy", "(Ljava/lang/Object;ILjava/lang/Object;II)V"⟩ ∈ GT := (List.mem_append_right _ (List.mem_append_right _ (List.mem_append_right _ (List.mem_append_right _ (List.mem_append_right _ (List.mem_append_left _ (List.mem_of_getElem? (i := 4) rfl)))))))
theorem gm_205 : Cond.methodLink "DigestBoxLaw" 82 ⟨"DigestBox", "keep", "()I"⟩ ∈ GT := (List.mem_append_right _ (List.mem_append_right _ (List.mem_append_right _ (List.mem_append_right _ (List.mem_append_right _ (List.mem_append_left _ (List.mem_of_getElem? (i := 5) rfl)))))))
theorem gm_206 : Cond.instanceMethod ⟨"DigestBox", "keep", "()I"⟩ ∈ GT := (List.mem_append_right _ (List.mem_append_right _ (List.mem_append_right _ (List.mem_append_right _ (List.mem_append_right _ (List.mem_append_left _ (List.mem_of_getElem? (i := 6) rfl)))))))
theorem gm_207 : Cond.selects "DigestBox" ⟨"DigestBox", "keep", "()I"⟩ ⟨"DigestBox", "keep", "()I"⟩ ∈ GT := (List.mem_append_right _ (List.mem_append_right _ (List.mem_append_right _ (List.mem_append_right _ (List.mem_append_right _ (List.mem_append_left _ (List.mem_of_getElem? (i := 7) rfl)))))))
theorem gm_208 : Cond.code ⟨"DigestBox", "keep", "()I"⟩ prog_1_method_8_code 1 (some .int) ∈ GT := (List.mem_append_right _ (List.mem_append_right _ (List.mem_append_right _ (List.mem_append_right _ (List.mem_append_right _ (List.mem_append_left _ (List.mem_of_getElem? (i := 8) rfl)))))))
theorem gm_209 : Cond.methodLink "DigestBoxLaw" 100 ⟨"DigestBox", "count", "(I)I"⟩ ∈ GT := (List.mem_append_right _ (List.mem_append_right _ (List.mem_append_right _ (List.mem_append_right _ (List.mem_append_right _ (List.mem_append_left _ (List.mem_of_getElem? (i := 9) rfl)))))))
theorem gm_210 : Cond.instanceMethod ⟨"DigestBox", "count", "(I)I"⟩ ∈ GT := (List.mem_append_right _ (List.mem_append_right _ (List.mem_append_right _ (List.mem_append_right _ (List.mem_append_right _ (List.mem_append_left _ (List.mem_of_getElem? (i := 10) rfl)))))))
theorem gm_211 : Cond.selects "DigestBox" ⟨"DigestBox", "count", "(I)I"⟩ ⟨"DigestBox", "count", "(I)I"⟩ ∈ GT := (List.mem_append_right _ (List.mem_append_right _ (List.mem_append_right _ (List.mem_append_right _ (List.mem_append_right _ (List.mem_append_left _ (List.mem_of_getElem? (i := 11) rfl)))))))
theorem gm_212 : Cond.code ⟨"DigestBox", "count", "(I)I"⟩ prog_1_method_13_code 2 (some .int) ∈ GT := (List.mem_append_right _ (List.mem_append_right _ (List.mem_append_right _ (List.mem_append_right _ (List.mem_append_right _ (List.mem_append_left _ (List.mem_of_getElem? (i := 12) rfl)))))))
theorem gm_213 : Cond.methodLink "DigestBox" 138 ⟨"DigestBox", "blocksOf", "(I)I"⟩ ∈ GT := (List.mem_append_right _ (List.mem_append_right _ (List.mem_append_right _ (List.mem_append_right _ (List.mem_append_right _ (List.mem_append_left _ (List.mem_of_getElem? (i := 13) rfl)))))))
theorem gm_214 : Cond.instanceMethod ⟨"DigestBox", "blocksOf", "(I)I"⟩ ∈ GT := (List.mem_append_right _ (List.mem_append_right _ (List.mem_append_right _ (List.mem_append_right _ (List.mem_append_right _ (List.mem_append_left _ (List.mem_of_getElem? (i := 14) rfl)))))))
theorem gm_215 : Cond.code ⟨"DigestBox", "blocksOf", "(I)I"⟩ prog_1_method_17_code 2 (some .int) ∈ GT := (List.mem_append_right _ (List.mem_append_right _ (List.mem_append_right _ (List.mem_append_right _ (List.mem_append_right _ (List.mem_append_left _ (List.mem_of_getElem? (i := 15) rfl)))))))
theorem gm_216 : Cond.methodLink "DigestBoxLaw" 54 ⟨"DigestBoxLaw", "feed", "(LDigestBox;IIIII[J)I"⟩ ∈ GT := (List.mem_append_right _ (List.mem_append_right _ (List.mem_append_right _ (List.mem_append_right _ (List.mem_append_right _ (List.mem_append_left _ (List.mem_of_getElem? (i := 16) rfl)))))))
theorem gm_217 : Cond.static ⟨"DigestBoxLaw", "feed", "(LDigestBox;IIIII[J)I"⟩ ∈ GT := (List.mem_append_right _ (List.mem_append_right _ (List.mem_append_right _ (List.mem_append_right _ (List.mem_append_right _ (List.mem_append_left _ (List.mem_of_getElem? (i := 17) rfl)))))))
theorem gm_218 : Cond.codeWith ⟨"DigestBoxLaw", "feed", "(LDigestBox;IIIII[J)I"⟩ method_3_code 8 (some .int) [(0, 16, 19, 13)] ∈ GT := (List.mem_append_right _ (List.mem_append_right _ (List.mem_append_right _ (List.mem_append_right _ (List.mem_append_right _ (List.mem_append_left _ (List.mem_of_getElem? (i := 18) rfl)))))))
theorem gm_219 : Cond.classLink "DigestBoxLaw" 13 "java/lang/IllegalStateException" ∈ GT := (List.mem_append_right _ (List.mem_append_right _ (List.mem_append_right _ (List.mem_append_right _ (List.mem_append_right _ (List.mem_append_left _ (List.mem_of_getElem? (i := 19) rfl)))))))
theorem gm_220 : Cond.methodLink "DigestBoxLaw" 7 ⟨"DigestBox", "feed", "(IIIII)I"⟩ ∈ GT := (List.mem_append_right _ (List.mem_append_right _ (List.mem_append_right _ (List.mem_append_right _ (List.mem_append_right _ (List.mem_append_left _ (List.mem_of_getElem? (i := 20) rfl)))))))
theorem gm_221 : Cond.instanceMethod ⟨"DigestBox", "feed", "(IIIII)I"⟩ ∈ GT := (List.mem_append_right _ (List.mem_append_right _ (List.mem_append_right _ (List.mem_append_right _ (List.mem_append_right _ (List.mem_append_left _ (List.mem_of_getElem? (i := 21) rfl)))))))
theorem gm_222 : Cond.selects "DigestBox" ⟨"DigestBox", "feed", "(IIIII)I"⟩ ⟨"DigestBox", "feed", "(IIIII)I"⟩ ∈ GT := (List.mem_append_right _ (List.mem_append_right _ (List.mem_append_right _ (List.mem_append_right _ (List.mem_append_right _ (List.mem_append_left _ (List.mem_of_getElem? (i := 22) rfl)))))))
theorem gm_223 : Cond.code ⟨"DigestBox", "feed", "(IIIII)I"⟩ prog_1_method_2_code 6 (some .int) ∈ GT := (List.mem_append_right _ (List.mem_append_right _ (List.mem_append_right _ (List.mem_append_right _ (List.mem_append_right _ (List.mem_append_left _ (List.mem_of_getElem? (i := 23) rfl)))))))
theorem gm_224 : Cond.constant "DigestBox" 62 65516 ∈ GT := (List.mem_append_right _ (List.mem_append_right _ (List.mem_append_right _ (List.mem_append_right _ (List.mem_append_right _ (List.mem_append_left _ (List.mem_of_getElem? (i := 24) rfl)))))))
theorem gm_225 : Cond.classLink "DigestBox" 63 "java/lang/IllegalStateException" ∈ GT := (List.mem_append_right _ (List.mem_append_right _ (List.mem_append_right _ (List.mem_append_right _ (List.mem_append_right _ (List.mem_append_left _ (List.mem_of_getElem? (i := 25) rfl)))))))
theorem gm_226 : Cond.instantiable "java/lang/IllegalStateException" 6 ∈ GT := (List.mem_append_right _ (List.mem_append_right _ (List.mem_append_right _ (List.mem_append_right _ (List.mem_append_right _ (List.mem_append_left _ (List.mem_of_getElem? (i := 26) rfl)))))))
theorem gm_227 : Cond.selects "java/lang/IllegalStateException" ⟨"java/lang/Throwable", "fillInStackTrace", "(I)Ljava/lang/Throwable;"⟩ ⟨"java/lang/Throwable", "fillInStackTrace", "(I)Ljava/lang/Throwable;"⟩ ∈ GT := (List.mem_append_right _ (List.mem_append_right _ (List.mem_append_right _ (List.mem_append_right _ (List.mem_append_right _ (List.mem_append_left _ (List.mem_of_getElem? (i := 27) rfl)))))))
theorem gm_228 : Cond.selects "java/lang/IllegalStateException" ⟨"java/lang/Throwable", "fillInStackTrace", "()Ljava/lang/Throwable;"⟩ ⟨"java/lang/Throwable", "fillInStackTrace", "()Ljava/lang/Throwable;"⟩ ∈ GT := (List.mem_append_right _ (List.mem_append_right _ (List.mem_append_right _ (List.mem_append_right _ (List.mem_append_right _ (List.mem_append_left _ (List.mem_of_getElem? (i := 28) rfl)))))))
theorem gm_229 : Cond.lays "java/lang/IllegalStateException" "java/lang/Throwable" "cause" "Ljava/lang/Throwable;" ∈ GT := (List.mem_append_right _ (List.mem_append_right _ (List.mem_append_right _ (List.mem_append_right _ (List.mem_append_right _ (List.mem_append_left _ (List.mem_of_getElem? (i := 29) rfl)))))))
theorem gm_230 : Cond.lays "java/lang/Throwable" "java/lang/Throwable" "cause" "Ljava/lang/Throwable;" ∈ GT := (List.mem_append_right _ (List.mem_append_right _ (List.mem_append_right _ (List.mem_append_right _ (List.mem_append_right _ (List.mem_append_left _ (List.mem_of_getElem? (i := 30) rfl)))))))
theorem gm_231 : Cond.lays "java/lang/IllegalStateException" "java/lang/Throwable" "stackTrace" "[Ljava/lang/StackTraceElement;" ∈ GT := (List.mem_append_right _ (List.mem_append_right _ (List.mem_append_right _ (List.mem_append_right _ (List.mem_append_right _ (List.mem_append_left _ (List.mem_of_getElem? (i := 31) rfl)))))))
theorem gm_232 : Cond.lays "java/lang/Throwable" "java/lang/Throwable" "stackTrace" "[Ljava/lang/StackTraceElement;" ∈ GT := (List.mem_append_right _ (List.mem_append_right _ (List.mem_append_right _ (List.mem_append_right _ (List.mem_append_right _ (List.mem_append_left _ (List.mem_of_getElem? (i := 32) rfl)))))))
theorem gm_233 : Cond.lays "java/lang/IllegalStateException" "java/lang/Throwable" "suppressedExceptions" "Ljava/util/List;" ∈ GT := (List.mem_append_right _ (List.mem_append_right _ (List.mem_append_right _ (List.mem_append_right _ (List.mem_append_right _ (List.mem_append_left _ (List.mem_of_getElem? (i := 33) rfl)))))))
theorem gm_234 : Cond.lays "java/lang/Throwable" "java/lang/Throwable" "suppressedExceptions" "Ljava/util/List;" ∈ GT := (List.mem_append_right _ (List.mem_append_right _ (List.mem_append_right _ (List.mem_append_right _ (List.mem_append_right _ (List.mem_append_left _ (List.mem_of_getElem? (i := 34) rfl)))))))
theorem gm_235 : Cond.lays "java/lang/IllegalStateException" "java/lang/Throwable" "detailMessage" "Ljava/lang/String;" ∈ GT := (List.mem_append_right _ (List.mem_append_right _ (List.mem_append_right _ (List.mem_append_right _ (List.mem_append_right _ (List.mem_append_left _ (List.mem_of_getElem? (i := 35) rfl)))))))
theorem gm_236 : Cond.lays "java/lang/Throwable" "java/lang/Throwable" "detailMessage" "Ljava/lang/String;" ∈ GT := (List.mem_append_right _ (List.mem_append_right _ (List.mem_append_right _ (List.mem_append_right _ (List.mem_append_right _ (List.mem_append_left _ (List.mem_of_getElem? (i := 36) rfl)))))))
theorem gm_237 : Cond.lays "java/lang/IllegalStateException" "java/lang/Throwable" "backtrace" "Ljava/lang/Object;" ∈ GT := (List.mem_append_right _ (List.mem_append_right _ (List.mem_append_right _ (List.mem_append_right _ (List.mem_append_right _ (List.mem_append_left _ (List.mem_of_getElem? (i := 37) rfl)))))))
theorem gm_238 : Cond.lays "java/lang/Throwable" "java/lang/Throwable" "backtrace" "Ljava/lang/Object;" ∈ GT := (List.mem_append_right _ (List.mem_append_right _ (List.mem_append_right _ (List.mem_append_right _ (List.mem_append_right _ (List.mem_append_left _ (List.mem_of_getElem? (i := 38) rfl)))))))
theorem gm_239 : Cond.fieldLink "java/lang/Throwable" 198 "java/lang/Throwable" "backtrace" "Ljava/lang/Object;" ∈ GT := (List.mem_append_right _ (List.mem_append_right _ (List.mem_append_right _ (List.mem_append_right _ (List.mem_append_right _ (List.mem_append_left _ (List.mem_of_getElem? (i := 39) rfl)))))))
theorem gm_240 : Cond.instanceMethod ⟨"java/lang/Throwable", "<init>", "()V"⟩ ∈ GT := (List.mem_append_right _ (List.mem_append_right _ (List.mem_append_right _ (List.mem_append_right _ (List.mem_append_right _ (List.mem_append_right _ (List.mem_append_left _ (List.mem_of_getElem? (i := 0) rfl))))))))
theorem gm_241 : Cond.code ⟨"java/lang/Throwable", "<init>", "()V"⟩ prog_24_method_1_code 1 none ∈ GT := (List.mem_append_right _ (List.mem_append_right _ (List.mem_append_right _ (List.mem_append_right _ (List.mem_append_right _ (List.mem_append_right _ (List.mem_append_left _ (List.mem_of_getElem? (i := 1) rfl))))))))
theorem gm_242 : Cond.methodLink "java/lang/Throwable" 1 ⟨"java/lang/Object", "<init>", "()V"⟩ ∈ GT := (List.mem_append_right _ (List.mem_append_right _ (List.mem_append_right _ (List.mem_append_right _ (List.mem_append_right _ (List.mem_append_right _ (List.mem_append_left _ (List.mem_of_getElem? (i := 2) rfl))))))))
theorem gm_243 : Cond.fieldLink "java/lang/Throwable" 13 "java/lang/Throwable" "UNASSIGNED_STACK" "[Ljava/lang/StackTraceElement;" ∈ GT := (List.mem_append_right _ (List.mem_append_right _ (List.mem_append_right _ (List.mem_append_right _ (List.mem_append_right _ (List.mem_append_right _ (List.mem_append_left _ (List.mem_of_getElem? (i := 3) rfl))))))))
theorem gm_244 : Cond.fieldLink "java/lang/Throwable" 20 "java/lang/Throwable" "SUPPRESSED_SENTINEL" "Ljava/util/List;" ∈ GT := (List.mem_append_right _ (List.mem_append_right _ (List.mem_append_right _ (List.mem_append_right _ (List.mem_append_right _ (List.mem_append_right _ (List.mem_append_left _ (List.mem_of_getElem? (i := 4) rfl))))))))
theorem gm_245 : Cond.methodLink "java/lang/Throwable" 27 ⟨"java/lang/Throwable", "fillInStackTrace", "()Ljava/lang/Throwable;"⟩ ∈ GT := (List.mem_append_right _ (List.mem_append_right _ (List.mem_append_right _ (List.mem_append_right _ (List.mem_append_right _ (List.mem_append_right _ (List.mem_append_left _ (List.mem_of_getElem? (i := 5) rfl))))))))
theorem gm_246 : Cond.instanceMethod ⟨"java/lang/Throwable", "fillInStackTrace", "()Ljava/lang/Throwable;"⟩ ∈ GT := (List.mem_append_right _ (List.mem_append_right _ (List.mem_append_right _ (List.mem_append_right _ (List.mem_append_right _ (List.mem_append_right _ (List.mem_append_left _ (List.mem_of_getElem? (i := 6) rfl))))))))
theorem gm_247 : Cond.sameMethod "java/lang/Throwable" "java/lang/Throwable" "fillInStackTrace" "()Ljava/lang/Throwable;" ∈ GT := (List.mem_append_right _ (List.mem_append_right _ (List.mem_append_right _ (List.mem_append_right _ (List.mem_append_right _ (List.mem_append_right _ (List.mem_append_left _ (List.mem_of_getElem? (i := 7) rfl))))))))
theorem gm_248 : Cond.selects "java/lang/IllegalArgumentException" ⟨"java/lang/Throwable", "fillInStackTrace", "()Ljava/lang/Throwable;"⟩ ⟨"java/lang/Throwable", "fillInStackTrace", "()Ljava/lang/Throwable;"⟩ ∈ GT := (List.mem_append_right _ (List.mem_append_right _ (List.mem_append_right _ (List.mem_append_right _ (List.mem_append_right _ (List.mem_append_right _ (List.mem_append_left _ (List.mem_of_getElem? (i := 8) rfl))))))))
theorem gm_249 : Cond.selects "java/lang/IndexOutOfBoundsException" ⟨"java/lang/Throwable", "fillInStackTrace", "()Ljava/lang/Throwable;"⟩ ⟨"java/lang/Throwable", "fillInStackTrace", "()Ljava/lang/Throwable;"⟩ ∈ GT := (List.mem_append_right _ (List.mem_append_right _ (List.mem_append_right _ (List.mem_append_right _ (List.mem_append_right _ (List.mem_append_right _ (List.mem_append_left _ (List.mem_of_getElem? (i := 9) rfl))))))))
theorem gm_250 : Cond.selects "java/util/NoSuchElementException" ⟨"java/lang/Throwable", "fillInStackTrace", "()Ljava/lang/Throwable;"⟩ ⟨"java/lang/Throwable", "fillInStackTrace", "()Ljava/lang/Throwable;"⟩ ∈ GT := (List.mem_append_right _ (List.mem_append_right _ (List.mem_append_right _ (List.mem_append_right _ (List.mem_append_right _ (List.mem_append_right _ (List.mem_append_left _ (List.mem_of_getElem? (i := 10) rfl))))))))
theorem gm_251 : Cond.codeSync ⟨"java/lang/Throwable", "fillInStackTrace", "()Ljava/lang/Throwable;"⟩ prog_24_method_18_code 1 (some (.object "java/lang/Throwable")) ∈ GT := (List.mem_append_right _ (List.mem_append_right _ (List.mem_append_right _ (List.mem_append_right _ (List.mem_append_right _ (List.mem_append_right _ (List.mem_append_left _ (List.mem_of_getElem? (i := 11) rfl))))))))
theorem gm_252 : Cond.methodLink "java/lang/Throwable" 202 ⟨"java/lang/Throwable", "fillInStackTrace", "(I)Ljava/lang/Throwable;"⟩ ∈ GT := (List.mem_append_right _ (List.mem_append_right _ (List.mem_append_right _ (List.mem_append_right _ (List.mem_append_right _ (List.mem_append_right _ (List.mem_append_left _ (List.mem_of_getElem? (i := 12) rfl))))))))
theorem gm_253 : Cond.instanceMethod ⟨"java/lang/Throwable", "fillInStackTrace", "(I)Ljava/lang/Throwable;"⟩ ∈ GT := (List.mem_append_right _ (List.mem_append_right _ (List.mem_append_right _ (List.mem_append_right _ (List.mem_append_right _ (List.mem_append_right _ (List.mem_append_left _ (List.mem_of_getElem? (i := 13) rfl))))))))
theorem gm_254 : Cond.instantiable "java/lang/Throwable" 6 ∈ GT := (List.mem_append_right _ (List.mem_append_right _ (List.mem_append_right _ (List.mem_append_right _ (List.mem_append_right _ (List.mem_append_right _ (List.mem_append_left _ (List.mem_of_getElem? (i := 14) rfl))))))))
theorem gm_255 : Cond.native ⟨"java/lang/Throwable", "fillInStackTrace", "(I)Ljava/lang/Throwable;"⟩ ∈ GT := (List.mem_append_right _ (List.mem_append_right _ (List.mem_append_right _ (List.mem_append_right _ (List.mem_append_right _ (List.mem_append_right _ (List.mem_append_left _ (List.mem_of_getElem? (i := 15) rfl))))))))
theorem gm_256 : Cond.methodLink "DigestBox" 65 ⟨"java/lang/IllegalStateException", "<init>", "()V"⟩ ∈ GT := (List.mem_append_right _ (List.mem_append_right _ (List.mem_append_right _ (List.mem_append_right _ (List.mem_append_right _ (List.mem_append_right _ (List.mem_append_left _ (List.mem_of_getElem? (i := 16) rfl))))))))
theorem gm_257 : Cond.instanceMethod ⟨"java/lang/IllegalStateException", "<init>", "()V"⟩ ∈ GT := (List.mem_append_right _ (List.mem_append_right _ (List.mem_append_right _ (List.mem_append_right _ (List.mem_append_right _ (List.mem_append_right _ (List.mem_append_left _ (List.mem_of_getElem? (i := 17) rfl))))))))
theorem gm_258 : Cond.code ⟨"java/lang/IllegalStateException", "<init>", "()V"⟩ prog_14_method_1_code 1 none ∈ GT := (List.mem_append_right _ (List.mem_append_right _ (List.mem_append_right _ (List.mem_append_right _ (List.mem_append_right _ (List.mem_append_right _ (List.mem_append_left _ (List.mem_of_getElem? (i := 18) rfl))))))))
theorem gm_259 : Cond.methodLink "java/lang/IllegalStateException" 1 ⟨"java/lang/RuntimeException", "<init>", "()V"⟩ ∈ GT := (List.mem_append_right _ (List.mem_append_right _ (List.mem_append_right _ (List.mem_append_right _ (List.mem_append_right _ (List.mem_append_right _ (List.mem_append_left _ (List.mem_of_getElem? (i := 19) rfl))))))))
theorem gm_260 : Cond.instanceMethod ⟨"java/lang/RuntimeException", "<init>", "()V"⟩ ∈ GT := (List.mem_append_right _ (List.mem_append_right _ (List.mem_append_right _ (List.mem_append_right _ (List.mem_append_right _ (List.mem_append_right _ (List.mem_append_left _ (List.mem_of_getElem? (i := 20) rfl))))))))
theorem gm_261 : Cond.code ⟨"java/lang/RuntimeException", "<init>", "()V"⟩ prog_18_method_1_code 1 none ∈ GT := (List.mem_append_right _ (List.mem_append_right _ (List.mem_append_right _ (List.mem_append_right _ (List.mem_append_right _ (List.mem_append_right _ (List.mem_append_left _ (List.mem_of_getElem? (i := 21) rfl))))))))
theorem gm_262 : Cond.methodLink "java/lang/RuntimeException" 1 ⟨"java/lang/Exception", "<init>", "()V"⟩ ∈ GT := (List.mem_append_right _ (List.mem_append_right _ (List.mem_append_right _ (List.mem_append_right _ (List.mem_append_right _ (List.mem_append_right _ (List.mem_append_left _ (List.mem_of_getElem? (i := 22) rfl))))))))
theorem gm_263 : Cond.instanceMethod ⟨"java/lang/Exception", "<init>", "()V"⟩ ∈ GT := (List.mem_append_right _ (List.mem_append_right _ (List.mem_append_right _ (List.mem_append_right _ (List.mem_append_right _ (List.mem_append_right _ (List.mem_append_left _ (List.mem_of_getElem? (i := 23) rfl))))))))
theorem gm_264 : Cond.code ⟨"java/lang/Exception", "<init>", "()V"⟩ prog_12_method_1_code 1 none ∈ GT := (List.mem_append_right _ (List.mem_append_right _ (List.mem_append_right _ (List.mem_append_right _ (List.mem_append_right _ (List.mem_append_right _ (List.mem_append_left _ (List.mem_of_getElem? (i := 24) rfl))))))))
theorem gm_265 : Cond.methodLink "java/lang/Exception" 1 ⟨"java/lang/Throwable", "<init>", "()V"⟩ ∈ GT := (List.mem_append_right _ (List.mem_append_right _ (List.mem_append_right _ (List.mem_append_right _ (List.mem_append_right _ (List.mem_append_right _ (List.mem_append_left _ (List.mem_of_getElem? (i := 25) rfl))))))))
theorem gm_266 : Cond.fieldLink "java/lang/Throwable" 31 "java/lang/Throwable" "detailMessage" "Ljava/lang/String;" ∈ GT := (List.mem_append_right _ (List.mem_append_right _ (List.mem_append_right _ (List.mem_append_right _ (List.mem_append_right _ (List.mem_append_right _ (List.mem_append_left _ (List.mem_of_getElem? (i := 26) rfl))))))))
theorem gm_267 : Cond.fieldLink "java/lang/Throwable" 7 "java/lang/Throwable" "cause" "Ljava/lang/Throwable;" ∈ GT := (List.mem_append_right _ (List.mem_append_right _ (List.mem_append_right _ (List.mem_append_right _ (List.mem_append_right _ (List.mem_append_right _ (List.mem_append_left _ (List.mem_of_getElem? (i := 27) rfl))))))))
theorem gm_268 : Cond.fieldLink "java/lang/Throwable" 17 "java/lang/Throwable" "stackTrace" "[Ljava/lang/StackTraceElement;" ∈ GT := (List.mem_append_right _ (List.mem_append_right _ (List.mem_append_right _ (List.mem_append_right _ (List.mem_append_right _ (List.mem_append_right _ (List.mem_append_left _ (List.mem_of_getElem? (i := 28) rfl))))))))
theorem gm_269 : Cond.fieldLink "java/lang/Throwable" 24 "java/lang/Throwable" "suppressedExceptions" "Ljava/util/List;" ∈ GT := (List.mem_append_right _ (List.mem_append_right _ (List.mem_append_right _ (List.mem_append_right _ (List.mem_append_right _ (List.mem_append_right _ (List.mem_append_left _ (List.mem_of_getElem? (i := 29) rfl))))))))
theorem gm_270 : Cond.lays "java/lang/IllegalStateException" "java/lang/Throwable" "depth" "I" ∈ GT := (List.mem_append_right _ (List.mem_append_right _ (List.mem_append_right _ (List.mem_append_right _ (List.mem_append_right _ (List.mem_append_right _ (List.mem_append_left _ (List.mem_of_getElem? (i := 30) rfl))))))))
theorem gm_271 : Cond.instanceMethod ⟨"DigestBox$Row", "appendNumber", "(I)V"⟩ ∈ GT := (List.mem_append_right _ (List.mem_append_right _ (List.mem_append_right _ (List.mem_append_right _ (List.mem_append_right _ (List.mem_append_right _ (List.mem_append_left _ (List.mem_of_getElem? (i := 31) rfl))))))))
theorem gm_272 : Cond.code ⟨"DigestBox$Row", "appendNumber", "(I)V"⟩ prog_4_method_4_code 2 none ∈ GT := (List.mem_append_right _ (List.mem_append_right _ (List.mem_append_right _ (List.mem_append_right _ (List.mem_append_right _ (List.mem_append_right _ (List.mem_append_left _ (List.mem_of_getElem? (i := 32) rfl))))))))
theorem gm_273 : Cond.methodLink "DigestBox$Row" 35 ⟨"DigestBox$Row", "appendByte", "(I)V"⟩ ∈ GT := (List.mem_append_right _ (List.mem_append_right _ (List.mem_append_right _ (List.mem_append_right _ (List.mem_append_right _ (List.mem_append_right _ (List.mem_append_left _ (List.mem_of_getElem? (i := 33) rfl))))))))
theorem gm_274 : Cond.instanceMethod ⟨"DigestBox$Row", "appendByte", "(I)V"⟩ ∈ GT := (List.mem_append_right _ (List.mem_append_right _ (List.mem_append_right _ (List.mem_append_right _ (List.mem_append_right _ (List.mem_append_right _ (List.mem_append_left _ (List.mem_of_getElem? (i := 34) rfl))))))))
theorem gm_275 : Cond.code ⟨"DigestBox$Row", "appendByte", "(I)V"⟩ prog_4_method_3_code 2 none ∈ GT := (List.mem_append_right _ (List.mem_append_right _ (List.mem_append_right _ (List.mem_append_right _ (List.mem_append_right _ (List.mem_append_right _ (List.mem_append_left _ (List.mem_of_getElem? (i := 35) rfl))))))))
theorem gm_276 : Cond.methodLink "DigestBoxLaw" 64 ⟨"DigestBoxLaw", "end", "(LDigestBox;I[J)I"⟩ ∈ GT := (List.mem_append_right _ (List.mem_append_right _ (List.mem_append_right _ (List.mem_append_right _ (List.mem_append_right _ (List.mem_append_right _ (List.mem_append_left _ (List.mem_of_getElem? (i := 36) rfl))))))))
theorem gm_277 : Cond.static ⟨"DigestBoxLaw", "end", "(LDigestBox;I[J)I"⟩ ∈ GT := (List.mem_append_right _ (List.mem_append_right _ (List.mem_append_right _ (List.mem_append_right _ (List.mem_append_right _ (List.mem_append_right _ (List.mem_append_left _ (List.mem_of_getElem? (i := 37) rfl))))))))
theorem gm_278 : Cond.codeWith ⟨"DigestBoxLaw", "end", "(LDigestBox;I[J)I"⟩ method_4_code 4 (some .int) [(0, 9, 12, 19)] ∈ GT := (List.mem_append_right _ (List.mem_append_right _ (List.mem_append_right _ (List.mem_append_right _ (List.mem_append_right _ (List.mem_append_right _ (List.mem_append_left _ (List.mem_of_getElem? (i := 38) rfl))))))))
theorem gm_279 : Cond.classLink "DigestBoxLaw" 19 "java/lang/IllegalArgumentException" ∈ GT := (List.mem_append_right _ (List.mem_append_right _ (List.mem_append_right _ (List.mem_append_right _ (List.mem_append_right _ (List.mem_append_right _ (List.mem_append_left _ (List.mem_of_getElem? (i := 39) rfl))))))))
theorem gm_280 : Cond.methodLink "DigestBoxLaw" 15 ⟨"DigestBox", "end", "(I)I"⟩ ∈ GT := (List.mem_append_right _ (List.mem_append_right _ (List.mem_append_right _ (List.mem_append_right _ (List.mem_append_right _ (List.mem_append_right _ (List.mem_append_right _ (List.mem_append_left _ (List.mem_of_getElem? (i := 0) rfl)))))))))
theorem gm_281 : Cond.instanceMethod ⟨"DigestBox", "end", "(I)I"⟩ ∈ GT := (List.mem_append_right _ (List.mem_append_right _ (List.mem_append_right _ (List.mem_append_right _ (List.mem_append_right _ (List.mem_append_right _ (List.mem_append_right _ (List.mem_append_left _ (List.mem_of_getElem? (i := 1) rfl)))))))))
theorem gm_282 : Cond.selects "DigestBox" ⟨"DigestBox", "end", "(I)I"⟩ ⟨"DigestBox", "end", "(I)I"⟩ ∈ GT := (List.mem_append_right _ (List.mem_append_right _ (List.mem_append_right _ (List.mem_append_right _ (List.mem_append_right _ (List.mem_append_right _ (List.mem_append_right _ (List.mem_append_left _ (List.mem_of_getElem? (i := 2) rfl)))))))))
theorem gm_283 : Cond.code ⟨"DigestBox", "end", "(I)I"⟩ prog_1_method_3_code 2 (some .int) ∈ GT := (List.mem_append_right _ (List.mem_append_right _ (List.mem_append_right _ (List.mem_append_right _ (List.mem_append_right _ (List.mem_append_right _ (List.mem_append_right _ (List.mem_append_left _ (List.mem_of_getElem? (i := 3) rfl)))))))))
theorem gm_284 : Cond.classLink "DigestBox" 70 "java/lang/IllegalArgumentException" ∈ GT := (List.mem_append_right _ (List.mem_append_right _ (List.mem_append_right _ (List.mem_append_right _ (List.mem_append_right _ (List.mem_append_right _ (List.mem_append_right _ (List.mem_append_left _ (List.mem_of_getElem? (i := 4) rfl)))))))))
theorem gm_285 : Cond.instantiable "java/lang/IllegalArgumentException" 6 ∈ GT := (List.mem_append_right _ (List.mem_append_right _ (List.mem_append_right _ (List.mem_append_right _ (List.mem_append_right _ (List.mem_append_right _ (List.mem_append_right _ (List.mem_append_left _ (List.mem_of_getElem? (i := 5) rfl)))))))))
theorem gm_286 : Cond.selects "java/lang/IllegalArgumentException" ⟨"java/lang/Throwable", "fillInStackTrace", "(I)Ljava/lang/Throwable;"⟩ ⟨"java/lang/Throwable", "fillInStackTrace", "(I)Ljava/lang/Throwable;"⟩ ∈ GT := (List.mem_append_right _ (List.mem_append_right _ (List.mem_append_right _ (List.mem_append_right _ (List.mem_append_right _ (List.mem_append_right _ (List.mem_append_right _ (List.mem_append_left _ (List.mem_of_getElem? (i := 6) rfl)))))))))
theorem gm_287 : Cond.lays "java/lang/IllegalArgumentException" "java/lang/Throwable" "cause" "Ljava/lang/Throwable;" ∈ GT := (List.mem_append_right _ (List.mem_append_right _ (List.mem_append_right _ (List.mem_append_right _ (List.mem_append_right _ (List.mem_append_right _ (List.mem_append_right _ (List.mem_append_left _ (List.mem_of_getElem? (i := 7) rfl)))))))))
theorem gm_288 : Cond.lays "java/lang/IllegalArgumentException" "java/lang/Throwable" "stackTrace" "[Ljava/lang/StackTraceElement;" ∈ GT := (List.mem_append_right _ (List.mem_append_right _ (List.mem_append_right _ (List.mem_append_right _ (List.mem_append_right _ (List.mem_append_right _ (List.mem_append_right _ (List.mem_append_left _ (List.mem_of_getElem? (i := 8) rfl)))))))))
theorem gm_289 : Cond.lays "java/lang/IllegalArgumentException" "java/lang/Throwable" "suppressedExceptions" "Ljava/util/List;" ∈ GT := (List.mem_append_right _ (List.mem_append_right _ (List.mem_append_right _ (List.mem_append_right _ (List.mem_append_right _ (List.mem_append_right _ (List.mem_append_right _ (List.mem_append_left _ (List.mem_of_getElem? (i := 9) rfl)))))))))
theorem gm_290 : Cond.lays "java/lang/IllegalArgumentException" "java/lang/Throwable" "detailMessage" "Ljava/lang/String;" ∈ GT := (List.mem_append_right _ (List.mem_append_right _ (List.mem_append_right _ (List.mem_append_right _ (List.mem_append_right _ (List.mem_append_right _ (List.mem_append_right _ (List.mem_append_left _ (List.mem_of_getElem? (i := 10) rfl)))))))))
theorem gm_291 : Cond.lays "java/lang/IllegalArgumentException" "java/lang/Throwable" "backtrace" "Ljava/lang/Object;" ∈ GT := (List.mem_append_right _ (List.mem_append_right _ (List.mem_append_right _ (List.mem_append_right _ (List.mem_append_right _ (List.mem_append_right _ (List.mem_append_right _ (List.mem_append_left _ (List.mem_of_getElem? (i := 11) rfl)))))))))
theorem gm_292 : Cond.methodLink "DigestBox" 72 ⟨"java/lang/IllegalArgumentException", "<init>", "()V"⟩ ∈ GT := (List.mem_append_right _ (List.mem_append_right _ (List.mem_append_right _ (List.mem_append_right _ (List.mem_append_right _ (List.mem_append_right _ (List.mem_append_right _ (List.mem_append_left _ (List.mem_of_getElem? (i := 12) rfl)))))))))
theorem gm_293 : Cond.instanceMethod ⟨"java/lang/IllegalArgumentException", "<init>", "()V"⟩ ∈ GT := (List.mem_append_right _ (List.mem_append_right _ (List.mem_append_right _ (List.mem_append_right _ (List.mem_append_right _ (List.mem_append_right _ (List.mem_append_right _ (List.mem_append_left _ (List.mem_of_getElem? (i := 13) rfl)))))))))
theorem gm_294 : Cond.code ⟨"java/lang/IllegalArgumentException", "<init>", "()V"⟩ prog_13_method_1_code 1 none ∈ GT := (List.mem_append_right _ (List.mem_append_right _ (List.mem_append_right _ (List.mem_append_right _ (List.mem_append_right _ (List.mem_append_right _ (List.mem_append_right _ (List.mem_append_left _ (List.mem_of_getElem? (i := 14) rfl)))))))))
theorem gm_295 : Cond.methodLink "java/lang/IllegalArgumentException" 1 ⟨"java/lang/RuntimeException", "<init>", "()V"⟩ ∈ GT := (List.mem_append_right _ (List.mem_append_right _ (List.mem_append_right _ (List.mem_append_right _ (List.mem_append_right _ (List.mem_append_right _ (List.mem_append_right _ (List.mem_append_left _ (List.mem_of_getElem? (i := 15) rfl)))))))))
theorem gm_296 : Cond.lays "java/lang/IllegalArgumentException" "java/lang/Throwable" "depth" "I" ∈ GT := (List.mem_append_right _ (List.mem_append_right _ (List.mem_append_right _ (List.mem_append_right _ (List.mem_append_right _ (List.mem_append_right _ (List.mem_append_right _ (List.mem_append_left _ (List.mem_of_getElem? (i := 16) rfl)))))))))
theorem gm_297 : Cond.methodLink "DigestBoxLaw" 68 ⟨"DigestBoxLaw", "restart", "(LDigestBox;I)I"⟩ ∈ GT := (List.mem_append_right _ (List.mem_append_right _ (List.mem_append_right _ (List.mem_append_right _ (List.mem_append_right _ (List.mem_append_right _ (List.mem_append_right _ (List.mem_append_left _ (List.mem_of_getElem? (i := 17) rfl)))))))))
theorem gm_298 : Cond.static ⟨"DigestBoxLaw", "restart", "(LDigestBox;I)I"⟩ ∈ GT := (List.mem_append_right _ (List.mem_append_right _ (List.mem_append_right _ (List.mem_append_right _ (List.mem_append_right _ (List.mem_append_right _ (List.mem_append_right _ (List.mem_append_left _ (List.mem_of_getElem? (i := 18) rfl)))))))))
theorem gm_299 : Cond.codeWith ⟨"DigestBoxLaw", "restart", "(LDigestBox;I)I"⟩ method_5_code 3 (some .int) [(0, 5, 8, 25)] ∈ GT := (List.mem_append_right _ (List.mem_append_right _ (List.mem_append_right _ (List.mem_append_right _ (List.mem_append_right _ (List.mem_append_right _ (List.mem_append_right _ (List.mem_append_left _ (List.mem_of_getElem? (i := 19) rfl)))))))))
theorem gm_300 : Cond.classLink "DigestBoxLaw" 25 "java/util/NoSuchElementException" ∈ GT := (List.mem_append_right _ (List.mem_append_right _ (List.mem_append_right _ (List.mem_append_right _ (List.mem_append_right _ (List.mem_append_right _ (List.mem_append_right _ (List.mem_append_left _ (List.mem_of_getElem? (i := 20) rfl)))))))))
theorem gm_301 : Cond.methodLink "DigestBoxLaw" 21 ⟨"DigestBox", "restart", "(I)V"⟩ ∈ GT := (List.mem_append_right _ (List.mem_append_right _ (List.mem_append_right _ (List.mem_append_right _ (List.mem_append_right _ (List.mem_append_right _ (List.mem_append_right _ (List.mem_append_left _ (List.mem_of_getElem? (i := 21) rfl)))))))))
theorem gm_302 : Cond.instanceMethod ⟨"DigestBox", "restart", "(I)V"⟩ ∈ GT := (List.mem_append_right _ (List.mem_append_right _ (List.mem_append_right _ (List.mem_append_right _ (List.mem_append_right _ (List.mem_append_right _ (List.mem_append_right _ (List.mem_append_left _ (List.mem_of_getElem? (i := 22) rfl)))))))))
theorem gm_303 : Cond.selects "DigestBox" ⟨"DigestBox", "restart", "(I)V"⟩ ⟨"DigestBox", "restart", "(I)V"⟩ ∈ GT := (List.mem_append_right _ (List.mem_append_right _ (List.mem_append_right _ (List.mem_append_right _ (List.mem_append_right _ (List.mem_append_right _ (List.mem_append_right _ (List.mem_append_left _ (List.mem_of_getElem? (i := 23) rfl)))))))))
theorem gm_304 : Cond.code ⟨"DigestBox", "restart", "(I)V"⟩ prog_1_method_4_code 2 none ∈ GT := (List.mem_append_right _ (List.mem_append_right _ (List.mem_append_right _ (List.mem_append_right _ (List.mem_append_right _ (List.mem_append_right _ (List.mem_append_right _ (List.mem_append_left _ (List.mem_of_getElem? (i := 24) rfl)))))))))
theorem gm_305 : Cond.methodLink "DigestBox" 73 ⟨"DigestBox", "checkKind", "(I)V"⟩ ∈ GT := (List.mem_append_right _ (List.mem_append_right _ (List.mem_append_right _ (List.mem_append_right _ (List.mem_append_right _ (List.mem_append_right _ (List.mem_append_right _ (List.mem_append_left _ (List.mem_of_getElem? (i := 25) rfl)))))))))
theorem gm_306 : Cond.static ⟨"DigestBox", "checkKind", "(I)V"⟩ ∈ GT := (List.mem_append_right _ (List.mem_append_right _ (List.mem_append_right _ (List.mem_append_right _ (List.mem_append_right _ (List.mem_append_right _ (List.mem_append_right _ (List.mem_append_left _ (List.mem_of_getElem? (i := 26) rfl)))))))))
theorem gm_307 : Cond.code ⟨"DigestBox", "checkKind", "(I)V"⟩ prog_1_method_14_code 1 none ∈ GT := (List.mem_append_right _ (List.mem_append_right _ (List.mem_append_right _ (List.mem_append_right _ (List.mem_append_right _ (List.mem_append_right _ (List.mem_append_right _ (List.mem_append_left _ (List.mem_of_getElem? (i := 27) rfl)))))))))
theorem gm_308 : Cond.classLink "DigestBox" 142 "java/util/NoSuchElementException" ∈ GT := (List.mem_append_right _ (List.mem_append_right _ (List.mem_append_right _ (List.mem_append_right _ (List.mem_append_right _ (List.mem_append_right _ (List.mem_append_right _ (List.mem_append_left _ (List.mem_of_getElem? (i := 28) rfl)))))))))
theorem gm_309 : Cond.instantiable "java/util/NoSuchElementException" 6 ∈ GT := (List.mem_append_right _ (List.mem_append_right _ (List.mem_append_right _ (List.mem_append_right _ (List.mem_append_right _ (List.mem_append_right _ (List.mem_append_right _ (List.mem_append_left _ (List.mem_of_getElem? (i := 29) rfl)))))))))
theorem gm_310 : Cond.selects "java/util/NoSuchElementException" ⟨"java/lang/Throwable", "fillInStackTrace", "(I)Ljava/lang/Throwable;"⟩ ⟨"java/lang/Throwable", "fillInStackTrace", "(I)Ljava/lang/Throwable;"⟩ ∈ GT := (List.mem_append_right _ (List.mem_append_right _ (List.mem_append_right _ (List.mem_append_right _ (List.mem_append_right _ (List.mem_append_right _ (List.mem_append_right _ (List.mem_append_left _ (List.mem_of_getElem? (i := 30) rfl)))))))))
theorem gm_311 : Cond.lays "java/util/NoSuchElementException" "java/lang/Throwable" "cause" "Ljava/lang/Throwable;" ∈ GT := (List.mem_append_right _ (List.mem_append_right _ (List.mem_append_right _ (List.mem_append_right _ (List.mem_append_right _ (List.mem_append_right _ (List.mem_append_right _ (List.mem_append_left _ (List.mem_of_getElem? (i := 31) rfl)))))))))
theorem gm_312 : Cond.lays "java/util/NoSuchElementException" "java/lang/Throwable" "stackTrace" "[Ljava/lang/StackTraceElement;" ∈ GT := (List.mem_append_right _ (List.mem_append_right _ (List.mem_append_right _ (List.mem_append_right _ (List.mem_append_right _ (List.mem_append_right _ (List.mem_append_right _ (List.mem_append_left _ (List.mem_of_getElem? (i := 32) rfl)))))))))
theorem gm_313 : Cond.lays "java/util/NoSuchElementException" "java/lang/Throwable" "suppressedExceptions" "Ljava/util/List;" ∈ GT := (List.mem_append_right _ (List.mem_append_right _ (List.mem_append_right _ (List.mem_append_right _ (List.mem_append_right _ (List.mem_append_right _ (List.mem_append_right _ (List.mem_append_left _ (List.mem_of_getElem? (i := 33) rfl)))))))))
theorem gm_314 : Cond.lays "java/util/NoSuchElementException" "java/lang/Throwable" "detailMessage" "Ljava/lang/String;" ∈ GT := (List.mem_append_right _ (List.mem_append_right _ (List.mem_append_right _ (List.mem_append_right _ (List.mem_append_right _ (List.mem_append_right _ (List.mem_append_right _ (List.mem_append_left _ (List.mem_of_getElem? (i := 34) rfl)))))))))
theorem gm_315 : Cond.lays "java/util/NoSuchElementException" "java/lang/Throwable" "backtrace" "Ljava/lang/Object;" ∈ GT := (List.mem_append_right _ (List.mem_append_right _ (List.mem_append_right _ (List.mem_append_right _ (List.mem_append_right _ (List.mem_append_right _ (List.mem_append_right _ (List.mem_append_left _ (List.mem_of_getElem? (i := 35) rfl)))))))))
theorem gm_316 : Cond.methodLink "DigestBox" 144 ⟨"java/util/NoSuchElementException", "<init>", "()V"⟩ ∈ GT := (List.mem_append_right _ (List.mem_append_right _ (List.mem_append_right _ (List.mem_append_right _ (List.mem_append_right _ (List.mem_append_right _ (List.mem_append_right _ (List.mem_append_left _ (List.mem_of_getElem? (i := 36) rfl)))))))))
theorem gm_317 : Cond.instanceMethod ⟨"java/util/NoSuchElementException", "<init>", "()V"⟩ ∈ GT := (List.mem_append_right _ (List.mem_append_right _ (List.mem_append_right _ (List.mem_append_right _ (List.mem_append_right _ (List.mem_append_right _ (List.mem_append_right _ (List.mem_append_left _ (List.mem_of_getElem? (i := 37) rfl)))))))))
theorem gm_318 : Cond.code ⟨"java/util/NoSuchElementException", "<init>", "()V"⟩ prog_26_method_1_code 1 none ∈ GT := (List.mem_append_right _ (List.mem_append_right _ (List.mem_append_right _ (List.mem_append_right _ (List.mem_append_right _ (List.mem_append_right _ (List.mem_append_right _ (List.mem_append_left _ (List.mem_of_getElem? (i := 38) rfl)))))))))
theorem gm_319 : Cond.methodLink "java/util/NoSuchElementException" 1 ⟨"java/lang/RuntimeException", "<init>", "()V"⟩ ∈ GT := (List.mem_append_right _ (List.mem_append_right _ (List.mem_append_right _ (List.mem_append_right _ (List.mem_append_right _ (List.mem_append_right _ (List.mem_append_right _ (List.mem_append_left _ (List.mem_of_getElem? (i := 39) rfl)))))))))
theorem gm_320 : Cond.lays "java/util/NoSuchElementException" "java/lang/Throwable" "depth" "I" ∈ GT := (List.mem_append_right _ (List.mem_append_right _ (List.mem_append_right _ (List.mem_append_right _ (List.mem_append_right _ (List.mem_append_right _ (List.mem_append_right _ (List.mem_append_right _ (List.mem_append_left _ (List.mem_of_getElem? (i := 0) rfl))))))))))
theorem gm_321 : Cond.instanceMethod ⟨"DigestBox$Sha", "begin", "()V"⟩ ∈ GT := (List.mem_append_right _ (List.mem_append_right _ (List.mem_append_right _ (List.mem_append_right _ (List.mem_append_right _ (List.mem_append_right _ (List.mem_append_right _ (List.mem_append_right _ (List.mem_append_left _ (List.mem_of_getElem? (i := 1) rfl))))))))))
theorem gm_322 : Cond.code ⟨"DigestBox$Sha", "begin", "()V"⟩ prog_5_method_4_code 1 none ∈ GT := (List.mem_append_right _ (List.mem_append_right _ (List.mem_append_right _ (List.mem_append_right _ (List.mem_append_right _ (List.mem_append_right _ (List.mem_append_right _ (List.mem_append_right _ (List.mem_append_left _ (List.mem_of_getElem? (i := 2) rfl))))))))))
theorem gm_323 : Cond.methodLink "DigestBox$Sha" 33 ⟨"DigestBox$Sha", "resume", "([JI)V"⟩ ∈ GT := (List.mem_append_right _ (List.mem_append_right _ (List.mem_append_right _ (List.mem_append_right _ (List.mem_append_right _ (List.mem_append_right _ (List.mem_append_right _ (List.mem_append_right _ (List.mem_append_left _ (List.mem_of_getElem? (i := 3) rfl))))))))))
theorem gm_324 : Cond.instanceMethod ⟨"DigestBox$Sha", "resume", "([JI)V"⟩ ∈ GT := (List.mem_append_right _ (List.mem_append_right _ (List.mem_append_right _ (List.mem_append_right _ (List.mem_append_right _ (List.mem_append_right _ (List.mem_append_right _ (List.mem_append_right _ (List.mem_append_left _ (List.mem_of_getElem? (i := 4) rfl))))))))))
theorem gm_325 : Cond.code ⟨"DigestBox$Sha", "resume", "([JI)V"⟩ prog_5_method_5_code 3 none ∈ GT := (List.mem_append_right _ (List.mem_append_right _ (List.mem_append_right _ (List.mem_append_right _ (List.mem_append_right _ (List.mem_append_right _ (List.mem_append_right _ (List.mem_append_right _ (List.mem_append_left _ (List.mem_of_getElem? (i := 5) rfl))))))))))
theorem gm_326 : Cond.methodLink "DigestBoxLaw" 72 ⟨"DigestBoxLaw", "more", "(LDigestBox;I[J)I"⟩ ∈ GT := (List.mem_append_right _ (List.mem_append_right _ (List.mem_append_right _ (List.mem_append_right _ (List.mem_append_right _ (List.mem_append_right _ (List.mem_append_right _ (List.mem_append_right _ (List.mem_append_left _ (List.mem_of_getElem? (i := 6) rfl))))))))))
theorem gm_327 : Cond.static ⟨"DigestBoxLaw", "more", "(LDigestBox;I[J)I"⟩ ∈ GT := (List.mem_append_right _ (List.mem_append_right _ (List.mem_append_right _ (List.mem_append_right _ (List.mem_append_right _ (List.mem_append_right _ (List.mem_append_right _ (List.mem_append_right _ (List.mem_append_left _ (List.mem_of_getElem? (i := 7) rfl))))))))))
theorem gm_328 : Cond.codeWith ⟨"DigestBoxLaw", "more", "(LDigestBox;I[J)I"⟩ method_6_code 4 (some .int) [(0, 8, 11, 25)] ∈ GT := (List.mem_append_right _ (List.mem_append_right _ (List.mem_append_right _ (List.mem_append_right _ (List.mem_append_right _ (List.mem_append_right _ (List.mem_append_right _ (List.mem_append_right _ (List.mem_append_left _ (List.mem_of_getElem? (i := 8) rfl))))))))))
theorem gm_329 : Cond.methodLink "DigestBoxLaw" 27 ⟨"DigestBox", "more", "(I)J"⟩ ∈ GT := (List.mem_append_right _ (List.mem_append_right _ (List.mem_append_right _ (List.mem_append_right _ (List.mem_append_right _ (List.mem_append_right _ (List.mem_append_right _ (List.mem_append_right _ (List.mem_append_left _ (List.mem_of_getElem? (i := 9) rfl))))))))))
theorem gm_330 : Cond.instanceMethod ⟨"DigestBox", "more", "(I)J"⟩ ∈ GT := (List.mem_append_right _ (List.mem_append_right _ (List.mem_append_right _ (List.mem_append_right _ (List.mem_append_right _ (List.mem_append_right _ (List.mem_append_right _ (List.mem_append_right _ (List.mem_append_left _ (List.mem_of_getElem? (i := 10) rfl))))))))))
theorem gm_331 : Cond.selects "DigestBox" ⟨"DigestBox", "more", "(I)J"⟩ ⟨"DigestBox", "more", "(I)J"⟩ ∈ GT := (List.mem_append_right _ (List.mem_append_right _ (List.mem_append_right _ (List.mem_append_right _ (List.mem_append_right _ (List.mem_append_right _ (List.mem_append_right _ (List.mem_append_right _ (List.mem_append_left _ (List.mem_of_getElem? (i := 11) rfl))))))))))
theorem gm_332 : Cond.code ⟨"DigestBox", "more", "(I)J"⟩ prog_1_method_5_code 2 (some .long) ∈ GT := (List.mem_append_right _ (List.mem_append_right _ (List.mem_append_right _ (List.mem_append_right _ (List.mem_append_right _ (List.mem_append_right _ (List.mem_append_right _ (List.mem_append_right _ (List.mem_append_left _ (List.mem_of_getElem? (i := 12) rfl))))))))))
theorem gm_333 : Cond.instanceMethod ⟨"DigestBox$Sha", "take", "([BII)V"⟩ ∈ GT := (List.mem_append_right _ (List.mem_append_right _ (List.mem_append_right _ (List.mem_append_right _ (List.mem_append_right _ (List.mem_append_right _ (List.mem_append_right _ (List.mem_append_right _ (List.mem_append_left _ (List.mem_of_getElem? (i := 13) rfl))))))))))
theorem gm_334 : Cond.code ⟨"DigestBox$Sha", "take", "([BII)V"⟩ prog_5_method_7_code 5 none ∈ GT := (List.mem_append_right _ (List.mem_append_right _ (List.mem_append_right _ (List.mem_append_right _ (List.mem_append_right _ (List.mem_append_right _ (List.mem_append_right _ (List.mem_append_right _ (List.mem_append_left _ (List.mem_of_getElem? (i := 14) rfl))))))))))
theorem gm_335 : Cond.methodLink "DigestBox$Sha" 44 ⟨"DigestBox$Sha", "goOverBlock", "()V"⟩ ∈ GT := (List.mem_append_right _ (List.mem_append_right _ (List.mem_append_right _ (List.mem_append_right _ (List.mem_append_right _ (List.mem_append_right _ (List.mem_append_right _ (List.mem_append_right _ (List.mem_append_left _ (List.mem_of_getElem? (i := 15) rfl))))))))))
theorem gm_336 : Cond.instanceMethod ⟨"DigestBox$Sha", "goOverBlock", "()V"⟩ ∈ GT := (List.mem_append_right _ (List.mem_append_right _ (List.mem_append_right _ (List.mem_append_right _ (List.mem_append_right _ (List.mem_append_right _ (List.mem_append_right _ (List.mem_append_right _ (List.mem_append_left _ (List.mem_of_getElem? (i := 16) rfl))))))))))
theorem gm_337 : Cond.code ⟨"DigestBox$Sha", "goOverBlock", "()V"⟩ prog_5_method_9_code 1 none ∈ GT := (List.mem_append_right _ (List.mem_append_right _ (List.mem_append_right _ (List.mem_append_right _ (List.mem_append_right _ (List.mem_append_right _ (List.mem_append_right _ (List.mem_append_right _ (List.mem_append_left _ (List.mem_of_getElem? (i := 17) rfl))))))))))
theorem gm_338 : Cond.methodLink "DigestBox$Sha" 47 ⟨"DigestBox$Sha", "fillSchedule", "()V"⟩ ∈ GT := (List.mem_append_right _ (List.mem_append_right _ (List.mem_append_right _ (List.mem_append_right _ (List.mem_append_right _ (List.mem_append_right _ (List.mem_append_right _ (List.mem_append_right _ (List.mem_append_left _ (List.mem_of_getElem? (i := 18) rfl))))))))))
theorem gm_339 : Cond.sameMethod "DigestBox$Sha" "DigestBox$Sha" "fillSchedule" "()V" ∈ GT := (List.mem_append_right _ (List.mem_append_right _ (List.mem_append_right _ (List.mem_append_right _ (List.mem_append_right _ (List.mem_append_right _ (List.mem_append_right _ (List.mem_append_right _ (List.mem_append_left _ (List.mem_of_getElem? (i := 19) rfl))))))))))
theorem gm_340 : Cond.selects "DigestBox$NarrowSha" ⟨"DigestBox$Sha", "fillSchedule", "()V"⟩ ⟨"DigestBox$NarrowSha", "fillSchedule", "()V"⟩ ∈ GT := (List.mem_append_right _ (List.mem_append_right _ (List.mem_append_right _ (List.mem_append_right _ (List.mem_append_right _ (List.mem_append_right _ (List.mem_append_right _ (List.mem_append_right _ (List.mem_append_left _ (List.mem_of_getElem? (i := 20) rfl))))))))))
theorem gm_341 : Cond.instanceMethod ⟨"DigestBox$NarrowSha", "fillSchedule", "()V"⟩ ∈ GT := (List.mem_append_right _ (List.mem_append_right _ (List.mem_append_right _ (List.mem_append_right _ (List.mem_append_right _ (List.mem_append_right _ (List.mem_append_right _ (List.mem_append_right _ (List.mem_append_left _ (List.mem_of_getElem? (i := 21) rfl))))))))))
theorem gm_342 : Cond.code ⟨"DigestBox$NarrowSha", "fillSchedule", "()V"⟩ prog_3_method_3_code 4 none ∈ GT := (List.mem_append_right _ (List.mem_append_right _ (List.mem_append_right _ (List.mem_append_right _ (List.mem_append_right _ (List.mem_append_right _ (List.mem_append_right _ (List.mem_append_right _ (List.mem_append_left _ (List.mem_of_getElem? (i := 22) rfl))))))))))
theorem gm_343 : Cond.methodLink "DigestBox$NarrowSha" 31 ⟨"DigestBox$NarrowSha", "smallSigma1", "(I)I"⟩ ∈ GT := (List.mem_append_right _ (List.mem_append_right _ (List.mem_append_right _ (List.mem_append_right _ (List.mem_append_right _ (List.mem_append_right _ (List.mem_append_right _ (List.mem_append_right _ (List.mem_append_left _ (List.mem_of_getElem? (i := 23) rfl))))))))))
theorem gm_344 : Cond.static ⟨"DigestBox$NarrowSha", "smallSigma1", "(I)I"⟩ ∈ GT := (List.mem_append_right _ (List.mem_append_right _ (List.mem_append_right _ (List.mem_append_right _ (List.mem_append_right _ (List.mem_append_right _ (List.mem_append_right _ (List.mem_append_right _ (List.mem_append_left _ (List.mem_of_getElem? (i := 24) rfl))))))))))
theorem gm_345 : Cond.code ⟨"DigestBox$NarrowSha", "smallSigma1", "(I)I"⟩ prog_3_method_7_code 1 (some .int) ∈ GT := (List.mem_append_right _ (List.mem_append_right _ (List.mem_append_right _ (List.mem_append_right _ (List.mem_append_right _ (List.mem_append_right _ (List.mem_append_right _ (List.mem_append_right _ (List.mem_append_left _ (List.mem_of_getElem? (i := 25) rfl))))))))))
theorem gm_346 : Cond.methodLink "DigestBox$NarrowSha" 34 ⟨"DigestBox$NarrowSha", "smallSigma0", "(I)I"⟩ ∈ GT := (List.mem_append_right _ (List.mem_append_right _ (List.mem_append_right _ (List.mem_append_right _ (List.mem_append_right _ (List.mem_append_right _ (List.mem_append_right _ (List.mem_append_right _ (List.mem_append_left _ (List.mem_of_getElem? (i := 26) rfl))))))))))
theorem gm_347 : Cond.static ⟨"DigestBox$NarrowSha", "smallSigma0", "(I)I"⟩ ∈ GT := (List.mem_append_right _ (List.mem_append_right _ (List.mem_append_right _ (List.mem_append_right _ (List.mem_append_right _ (List.mem_append_right _ (List.mem_append_right _ (List.mem_append_right _ (List.mem_append_left _ (List.mem_of_getElem? (i := 27) rfl))))))))))
theorem gm_348 : Cond.code ⟨"DigestBox$NarrowSha", "smallSigma0", "(I)I"⟩ prog_3_method_6_code 1 (some .int) ∈ GT := (List.mem_append_right _ (List.mem_append_right _ (List.mem_append_right _ (List.mem_append_right _ (List.mem_append_right _ (List.mem_append_right _ (List.mem_append_right _ (List.mem_append_right _ (List.mem_append_left _ (List.mem_of_getElem? (i := 28) rfl))))))))))
theorem gm_349 : Cond.selects "DigestBox$WideSha" ⟨"DigestBox$Sha", "fillSchedule", "()V"⟩ ⟨"DigestBox$WideSha", "fillSchedule", "()V"⟩ ∈ GT := (List.mem_append_right _ (List.mem_append_right _ (List.mem_append_right _ (List.mem_append_right _ (List.mem_append_right _ (List.mem_append_right _ (List.mem_append_right _ (List.mem_append_right _ (List.mem_append_left _ (List.mem_of_getElem? (i := 29) rfl))))))))))
theorem gm_350 : Cond.instanceMethod ⟨"DigestBox$WideSha", "fillSchedule", "()V"⟩ ∈ GT := (List.mem_append_right _ (List.mem_append_right _ (List.mem_append_right _ (List.mem_append_right _ (List.mem_append_right _ (List.mem_append_right _ (List.mem_append_right _ (List.mem_append_right _ (List.mem_append_left _ (List.mem_of_getElem? (i := 30) rfl))))))))))
theorem gm_351 : Cond.code ⟨"DigestBox$WideSha", "fillSchedule", "()V"⟩ prog_6_method_3_code 5 none ∈ GT := (List.mem_append_right _ (List.mem_append_right _ (List.mem_append_right _ (List.mem_append_right _ (List.mem_append_right _ (List.mem_append_right _ (List.mem_append_right _ (List.mem_append_right _ (List.mem_append_left _ (List.mem_of_getElem? (i := 31) rfl))))))))))
theorem gm_352 : Cond.methodLink "DigestBox$WideSha" 32 ⟨"DigestBox$WideSha", "smallSigma1", "(J)J"⟩ ∈ GT := (List.mem_append_right _ (List.mem_append_right _ (List.mem_append_right _ (List.mem_append_right _ (List.mem_append_right _ (List.mem_append_right _ (List.mem_append_right _ (List.mem_append_right _ (List.mem_append_left _ (List.mem_of_getElem? (i := 32) rfl))))))))))
theorem gm_353 : Cond.static ⟨"DigestBox$WideSha", "smallSigma1", "(J)J"⟩ ∈ GT := (List.mem_append_right _ (List.mem_append_right _ (List.mem_append_right _ (List.mem_append_right _ (List.mem_append_right _ (List.mem_append_right _ (List.mem_append_right _ (List.mem_append_right _ (List.mem_append_left _ (List.mem_of_getElem? (i := 33) rfl))))))))))
theorem gm_354 : Cond.code ⟨"DigestBox$WideSha", "smallSigma1", "(J)J"⟩ prog_6_method_7_code 2 (some .long) ∈ GT := (List.mem_append_right _ (List.mem_append_right _ (List.mem_append_right _ (List.mem_append_right _ (List.mem_append_right _ (List.mem_append_right _ (List.mem_append_right _ (List.mem_append_right _ (List.mem_append_left _ (List.mem_of_getElem? (i := 34) rfl))))))))))
theorem gm_355 : Cond.methodLink "DigestBox$WideSha" 35 ⟨"DigestBox$WideSha", "smallSigma0", "(J)J"⟩ ∈ GT := (List.mem_append_right _ (List.mem_append_right _ (List.mem_append_right _ (List.mem_append_right _ (List.mem_append_right _ (List.mem_append_right _ (List.mem_append_right _ (List.mem_append_right _ (List.mem_append_left _ (List.mem_of_getElem? (i := 35) rfl))))))))))
theorem gm_356 : Cond.static ⟨"DigestBox$WideSha", "smallSigma0", "(J)J"⟩ ∈ GT := (List.mem_append_right _ (List.mem_append_right _ (List.mem_append_right _ (List.mem_append_right _ (List.mem_append_right _ (List.mem_append_right _ (List.mem_append_right _ (List.mem_append_right _ (List.mem_append_left _ (List.mem_of_getElem? (i := 36) rfl))))))))))
theorem gm_357 : Cond.code ⟨"DigestBox$WideSha", "smallSigma0", "(J)J"⟩ prog_6_method_6_code 2 (some .long) ∈ GT := (List.mem_append_right _ (List.mem_append_right _ (List.mem_append_right _ (List.mem_append_right _ (List.mem_append_right _ (List.mem_append_right _ (List.mem_append_right _ (List.mem_append_right _ (List.mem_append_left _ (List.mem_of_getElem? (i := 37) rfl))))))))))
theorem gm_358 : Cond.methodLink "DigestBox$Sha" 50 ⟨"DigestBox$Sha", "mixSchedule", "()V"⟩ ∈ GT := (List.mem_append_right _ (List.mem_append_right _ (List.mem_append_right _ (List.mem_append_right _ (List.mem_append_right _ (List.mem_append_right _ (List.mem_append_right _ (List.mem_append_right _ (List.mem_append_left _ (List.mem_of_getElem? (i := 38) rfl))))))))))
theorem gm_359 : Cond.sameMethod "DigestBox$Sha" "DigestBox$Sha" "mixSchedule" "()V" ∈ GT := (List.mem_append_right _ (List.mem_append_right _ (List.mem_append_right _ (List.mem_append_right _ (List.mem_append_right _ (List.mem_append_right _ (List.mem_append_right _ (List.mem_append_right _ (List.mem_append_left _ (List.mem_of_getElem? (i := 39) rfl))))))))))
theorem gm_360 : Cond.selects "DigestBox$NarrowSha" ⟨"DigestBox$Sha", "mixSchedule", "()V"⟩ ⟨"DigestBox$NarrowSha", "mixSchedule", "()V"⟩ ∈ GT := (List.mem_append_right _ (List.mem_append_right _ (List.mem_append_right _ (List.mem_append_right _ (List.mem_append_right _ (List.mem_append_right _ (List.mem_append_right _ (List.mem_append_right _ (List.mem_append_right _ (List.mem_append_left _ (List.mem_of_getElem? (i := 0) rfl)))))))))))
theorem gm_361 : Cond.instanceMethod ⟨"DigestBox$NarrowSha", "mixSchedule", "()V"⟩ ∈ GT := (List.mem_append_right _ (List.mem_append_right _ (List.mem_append_right _ (List.mem_append_right _ (List.mem_append_right _ (List.mem_append_right _ (List.mem_append_right _ (List.mem_append_right _ (List.mem_append_right _ (List.mem_append_left _ (List.mem_of_getElem? (i := 1) rfl)))))))))))
theorem gm_362 : Cond.code ⟨"DigestBox$NarrowSha", "mixSchedule", "()V"⟩ prog_3_method_2_code 12 none ∈ GT := (List.mem_append_right _ (List.mem_append_right _ (List.mem_append_right _ (List.mem_append_right _ (List.mem_append_right _ (List.mem_append_right _ (List.mem_append_right _ (List.mem_append_right _ (List.mem_append_right _ (List.mem_append_left _ (List.mem_of_getElem? (i := 2) rfl)))))))))))
theorem gm_363 : Cond.methodLink "DigestBox$NarrowSha" 17 ⟨"DigestBox$NarrowSha", "bigSigma1", "(I)I"⟩ ∈ GT := (List.mem_append_right _ (List.mem_append_right _ (List.mem_append_right _ (List.mem_append_right _ (List.mem_append_right _ (List.mem_append_right _ (List.mem_append_right _ (List.mem_append_right _ (List.mem_append_right _ (List.mem_append_left _ (List.mem_of_getElem? (i := 3) rfl)))))))))))
theorem gm_364 : Cond.static ⟨"DigestBox$NarrowSha", "bigSigma1", "(I)I"⟩ ∈ GT := (List.mem_append_right _ (List.mem_append_right _ (List.mem_append_right _ (List.mem_append_right _ (List.mem_append_right _ (List.mem_append_right _ (List.mem_append_right _ (List.mem_append_right _ (List.mem_append_right _ (List.mem_append_left _ (List.mem_of_getElem? (i := 4) rfl)))))))))))
theorem gm_365 : Cond.code ⟨"DigestBox$NarrowSha", "bigSigma1", "(I)I"⟩ prog_3_method_5_code 1 (some .int) ∈ GT := (List.mem_append_right _ (List.mem_append_right _ (List.mem_append_right _ (List.mem_append_right _ (List.mem_append_right _ (List.mem_append_right _ (List.mem_append_right _ (List.mem_append_right _ (List.mem_append_right _ (List.mem_append_left _ (List.mem_of_getElem? (i := 5) rfl)))))))))))
theorem gm_366 : Cond.fieldLink "DigestBox$NarrowSha" 21 "DigestBox$NarrowSha" "ROUND_CONSTANTS" "[I" ∈ GT := (List.mem_append_right _ (List.mem_append_right _ (List.mem_append_right _ (List.mem_append_right _ (List.mem_append_right _ (List.mem_append_right _ (List.mem_append_right _ (List.mem_append_right _ (List.mem_append_right _ (List.mem_append_left _ (List.mem_of_getElem? (i := 6) rfl)))))))))))
theorem gm_367 : Cond.methodLink "DigestBox$NarrowSha" 24 ⟨"DigestBox$NarrowSha", "bigSigma0", "(I)I"⟩ ∈ GT := (List.mem_append_right _ (List.mem_append_right _ (List.mem_append_right _ (List.mem_append_right _ (List.mem_append_right _ (List.mem_append_right _ (List.mem_append_right _ (List.mem_append_right _ (List.mem_append_right _ (List.mem_append_left _ (List.mem_of_getElem? (i := 7) rfl)))))))))))
theorem gm_368 : Cond.static ⟨"DigestBox$NarrowSha", "bigSigma0", "(I)I"⟩ ∈ GT := (List.mem_append_right _ (List.mem_append_right _ (List.mem_append_right _ (List.mem_append_right _ (List.mem_append_right _ (List.mem_append_right _ (List.mem_append_right _ (List.mem_append_right _ (List.mem_append_right _ (List.mem_append_left _ (List.mem_of_getElem? (i := 8) rfl)))))))))))
theorem gm_369 : Cond.code ⟨"DigestBox$NarrowSha", "bigSigma0", "(I)I"⟩ prog_3_method_4_code 1 (some .int) ∈ GT := (List.mem_append_right _ (List.mem_append_right _ (List.mem_append_right _ (List.mem_append_right _ (List.mem_append_right _ (List.mem_append_right _ (List.mem_append_right _ (List.mem_append_right _ (List.mem_append_right _ (List.mem_append_left _ (List.mem_of_getElem? (i := 9) rfl)))))))))))
theorem gm_370 : Cond.selects "DigestBox$WideSha" ⟨"DigestBox$Sha", "mixSchedule", "()V"⟩ ⟨"DigestBox$WideSha", "mixSchedule", "()V"⟩ ∈ GT := (List.mem_append_right _ (List.mem_append_right _ (List.mem_append_right _ (List.mem_append_right _ (List.mem_append_right _ (List.mem_append_right _ (List.mem_append_right _ (List.mem_append_right _ (List.mem_append_right _ (List.mem_append_left _ (List.mem_of_getElem? (i := 10) rfl)))))))))))
theorem gm_371 : Cond.instanceMethod ⟨"DigestBox$WideSha", "mixSchedule", "()V"⟩ ∈ GT := (List.mem_append_right _ (List.mem_append_right _ (List.mem_append_right _ (List.mem_append_right _ (List.mem_append_right _ (List.mem_append_right _ (List.mem_append_right _ (List.mem_append_right _ (List.mem_append_right _ (List.mem_append_left _ (List.mem_of_getElem? (i := 11) rfl)))))))))))
theorem gm_372 : Cond.code ⟨"DigestBox$WideSha", "mixSchedule", "()V"⟩ prog_6_method_2_code 22 none ∈ GT := (List.mem_append_right _ (List.mem_append_right _ (List.mem_append_right _ (List.mem_append_right _ (List.mem_append_right _ (List.mem_append_right _ (List.mem_append_right _ (List.mem_append_right _ (List.mem_append_right _ (List.mem_append_left _ (List.mem_of_getElem? (i := 12) rfl)))))))))))
theorem gm_373 : Cond.methodLink "DigestBox$WideSha" 16 ⟨"DigestBox$WideSha", "bigSigma1", "(J)J"⟩ ∈ GT := (List.mem_append_right _ (List.mem_append_right _ (List.mem_append_right _ (List.mem_append_right _ (List.mem_append_right _ (List.mem_append_right _ (List.mem_append_right _ (List.mem_append_right _ (List.mem_append_right _ (List.mem_append_left _ (List.mem_of_getElem? (i := 13) rfl)))))))))))
theorem gm_374 : Cond.static ⟨"DigestBox$WideSha", "bigSigma1", "(J)J"⟩ ∈ GT := (List.mem_append_right _ (List.mem_append_right _ (List.mem_append_right _ (List.mem_append_right _ (List.mem_append_right _ (List.mem_append_right _ (List.mem_append_right _ (List.mem_append_right _ (List.mem_append_right _ (List.mem_append_left _ (List.mem_of_getElem? (i := 14) rfl)))))))))))
theorem gm_375 : Cond.code ⟨"DigestBox$WideSha", "bigSigma1", "(J)J"⟩ prog_6_method_5_code 2 (some .long) ∈ GT := (List.mem_append_right _ (List.mem_append_right _ (List.mem_append_right _ (List.mem_append_right _ (List.mem_append_right _ (List.mem_append_right _ (List.mem_append_right _ (List.mem_append_right _ (List.mem_append_right _ (List.mem_append_left _ (List.mem_of_getElem? (i := 15) rfl)))))))))))
theorem gm_376 : Cond.constantLong "DigestBox$WideSha" 20 (-1) ∈ GT := (List.mem_append_right _ (List.mem_append_right _ (List.mem_append_right _ (List.mem_append_right _ (List.mem_append_right _ (List.mem_append_right _ (List.mem_append_right _ (List.mem_append_right _ (List.mem_append_right _ (List.mem_append_left _ (List.mem_of_getElem? (i := 16) rfl)))))))))))
theorem gm_377 : Cond.fieldLink "DigestBox$WideSha" 22 "DigestBox$WideSha" "ROUND_CONSTANTS" "[J" ∈ GT := (List.mem_append_right _ (List.mem_append_right _ (List.mem_append_right _ (List.mem_append_right _ (List.mem_append_right _ (List.mem_append_right _ (List.mem_append_right _ (List.mem_append_right _ (List.mem_append_right _ (List.mem_append_left _ (List.mem_of_getElem? (i := 17) rfl)))))))))))
theorem gm_378 : Cond.methodLink "DigestBox$WideSha" 25 ⟨"DigestBox$WideSha", "bigSigma0", "(J)J"⟩ ∈ GT := (List.mem_append_right _ (List.mem_append_right _ (List.mem_append_right _ (List.mem_append_right _ (List.mem_append_right _ (List.mem_append_right _ (List.mem_append_right _ (List.mem_append_right _ (List.mem_append_right _ (List.mem_append_left _ (List.mem_of_getElem? (i := 18) rfl)))))))))))
theorem gm_379 : Cond.static ⟨"DigestBox$WideSha", "bigSigma0", "(J)J"⟩ ∈ GT := (List.mem_append_right _ (List.mem_append_right _ (List.mem_append_right _ (List.mem_append_right _ (List.mem_append_right _ (List.mem_append_right _ (List.mem_append_right _ (List.mem_append_right _ (List.mem_append_right _ (List.mem_append_left _ (List.mem_of_getElem? (i := 19) rfl)))))))))))
theorem gm_380 : Cond.code ⟨"DigestBox$WideSha", "bigSigma0", "(J)J"⟩ prog_6_method_4_code 2 (some .long) ∈ GT := (List.mem_append_right _ (List.mem_append_right _ (List.mem_append_right _ (List.mem_append_right _ (List.mem_append_right _ (List.mem_append_right _ (List.mem_append_right _ (List.mem_append_right _ (List.mem_append_right _ (List.mem_append_left _ (List.mem_of_getElem? (i := 20) rfl)))))))))))
theorem gm_381 : Cond.methodLink "DigestBoxLaw" 75 ⟨"DigestBoxLaw", "peek", "(LDigestBox;I[J)I"⟩ ∈ GT := (List.mem_append_right _ (List.mem_append_right _ (List.mem_append_right _ (List.mem_append_right _ (List.mem_append_right _ (List.mem_append_right _ (List.mem_append_right _ (List.mem_append_right _ (List.mem_append_right _ (List.mem_append_left _ (List.mem_of_getElem? (i := 21) rfl)))))))))))
theorem gm_382 : Cond.static ⟨"DigestBoxLaw", "peek", "(LDigestBox;I[J)I"⟩ ∈ GT := (List.mem_append_right _ (List.mem_append_right _ (List.mem_append_right _ (List.mem_append_right _ (List.mem_append_right _ (List.mem_append_right _ (List.mem_append_right _ (List.mem_append_right _ (List.mem_append_right _ (List.mem_append_left _ (List.mem_of_getElem? (i := 22) rfl)))))))))))
theorem gm_383 : Cond.codeWith ⟨"DigestBoxLaw", "peek", "(LDigestBox;I[J)I"⟩ method_7_code 4 (some .int) [(0, 9, 12, 25)] ∈ GT := (List.mem_append_right _ (List.mem_append_right _ (List.mem_append_right _ (List.mem_append_right _ (List.mem_append_right _ (List.mem_append_right _ (List.mem_append_right _ (List.mem_append_right _ (List.mem_append_right _ (List.mem_append_left _ (List.mem_of_getElem? (i := 23) rfl)))))))))))
theorem gm_384 : Cond.methodLink "DigestBoxLaw" 31 ⟨"DigestBox", "peek", "(I)I"⟩ ∈ GT := (List.mem_append_right _ (List.mem_append_right _ (List.mem_append_right _ (List.mem_append_right _ (List.mem_append_right _ (List.mem_append_right _ (List.mem_append_right _ (List.mem_append_right _ (List.mem_append_right _ (List.mem_append_left _ (List.mem_of_getElem? (i := 24) rfl)))))))))))
theorem gm_385 : Cond.instanceMethod ⟨"DigestBox", "peek", "(I)I"⟩ ∈ GT := (List.mem_append_right _ (List.mem_append_right _ (List.mem_append_right _ (List.mem_append_right _ (List.mem_append_right _ (List.mem_append_right _ (List.mem_append_right _ (List.mem_append_right _ (List.mem_append_right _ (List.mem_append_left _ (List.mem_of_getElem? (i := 25) rfl)))))))))))
theorem gm_386 : Cond.selects "DigestBox" ⟨"DigestBox", "peek", "(I)I"⟩ ⟨"DigestBox", "peek", "(I)I"⟩ ∈ GT := (List.mem_append_right _ (List.mem_append_right _ (List.mem_append_right _ (List.mem_append_right _ (List.mem_append_right _ (List.mem_append_right _ (List.mem_append_right _ (List.mem_append_right _ (List.mem_append_right _ (List.mem_append_left _ (List.mem_of_getElem? (i := 26) rfl)))))))))))
theorem gm_387 : Cond.code ⟨"DigestBox", "peek", "(I)I"⟩ prog_1_method_6_code 3 (some .int) ∈ GT := (List.mem_append_right _ (List.mem_append_right _ (List.mem_append_right _ (List.mem_append_right _ (List.mem_append_right _ (List.mem_append_right _ (List.mem_append_right _ (List.mem_append_right _ (List.mem_append_right _ (List.mem_append_left _ (List.mem_of_getElem? (i := 27) rfl)))))))))))
theorem gm_388 : Cond.instanceMethod ⟨"DigestBox$Sha", "becomeCopyOf", "(LDigestBox$Sha;)V"⟩ ∈ GT := (List.mem_append_right _ (List.mem_append_right _ (List.mem_append_right _ (List.mem_append_right _ (List.mem_append_right _ (List.mem_append_right _ (List.mem_append_right _ (List.mem_append_right _ (List.mem_append_right _ (List.mem_append_left _ (List.mem_of_getElem? (i := 28) rfl)))))))))))
theorem gm_389 : Cond.code ⟨"DigestBox$Sha", "becomeCopyOf", "(LDigestBox$Sha;)V"⟩ prog_5_method_6_code 2 none ∈ GT := (List.mem_append_right _ (List.mem_append_right _ (List.mem_append_right _ (List.mem_append_right _ (List.mem_append_right _ (List.mem_append_right _ (List.mem_append_right _ (List.mem_append_right _ (List.mem_append_right _ (List.mem_append_left _ (List.mem_of_getElem? (i := 29) rfl)))))))))))
theorem gm_390 : Cond.methodLink "DigestBox" 101 ⟨"DigestBox", "roomForResult", "(I)[B"⟩ ∈ GT := (List.mem_append_right _ (List.mem_append_right _ (List.mem_append_right _ (List.mem_append_right _ (List.mem_append_right _ (List.mem_append_right _ (List.mem_append_right _ (List.mem_append_right _ (List.mem_append_right _ (List.mem_append_left _ (List.mem_of_getElem? (i := 30) rfl)))))))))))
theorem gm_391 : Cond.instanceMethod ⟨"DigestBox", "roomForResult", "(I)[B"⟩ ∈ GT := (List.mem_append_right _ (List.mem_append_right _ (List.mem_append_right _ (List.mem_append_right _ (List.mem_append_right _ (List.mem_append_right _ (List.mem_append_right _ (List.mem_append_right _ (List.mem_append_right _ (List.mem_append_left _ (List.mem_of_getElem? (i := 31) rfl)))))))))))
theorem gm_392 : Cond.code ⟨"DigestBox", "roomForResult", "(I)[B"⟩ prog_1_method_18_code 2 (some (.array .byte)) ∈ GT := (List.mem_append_right _ (List.mem_append_right _ (List.mem_append_right _ (List.mem_append_right _ (List.mem_append_right _ (List.mem_append_right _ (List.mem_append_right _ (List.mem_append_right _ (List.mem_append_right _ (List.mem_append_left _ (List.mem_of_getElem? (i := 32) rfl)))))))))))
theorem gm_393 : Cond.instanceMethod ⟨"DigestBox$Sha", "close", "([BI)V"⟩ ∈ GT := (List.mem_append_right _ (List.mem_append_right _ (List.mem_append_right _ (List.mem_append_right _ (List.mem_append_right _ (List.mem_append_right _ (List.mem_append_right _ (List.mem_append_right _ (List.mem_append_right _ (List.mem_append_left _ (List.mem_of_getElem? (i := 33) rfl)))))))))))
theorem gm_394 : Cond.code ⟨"DigestBox$Sha", "close", "([BI)V"⟩ prog_5_method_10_code 3 none ∈ GT := (List.mem_append_right _ (List.mem_append_right _ (List.mem_append_right _ (List.mem_append_right _ (List.mem_append_right _ (List.mem_append_right _ (List.mem_append_right _ (List.mem_append_right _ (List.mem_append_right _ (List.mem_append_left _ (List.mem_of_getElem? (i := 34) rfl)))))))))))
theorem gm_395 : Cond.methodLink "DigestBox$Sha" 56 ⟨"DigestBox$Sha", "fillUpWithZeros", "()V"⟩ ∈ GT := (List.mem_append_right _ (List.mem_append_right _ (List.mem_append_right _ (List.mem_append_right _ (List.mem_append_right _ (List.mem_append_right _ (List.mem_append_right _ (List.mem_append_right _ (List.mem_append_right _ (List.mem_append_left _ (List.mem_of_getElem? (i := 35) rfl)))))))))))
theorem gm_396 : Cond.instanceMethod ⟨"DigestBox$Sha", "fillUpWithZeros", "()V"⟩ ∈ GT := (List.mem_append_right _ (List.mem_append_right _ (List.mem_append_right _ (List.mem_append_right _ (List.mem_append_right _ (List.mem_append_right _ (List.mem_append_right _ (List.mem_append_right _ (List.mem_append_right _ (List.mem_append_left _ (List.mem_of_getElem? (i := 36) rfl)))))))))))
theorem gm_397 : Cond.code ⟨"DigestBox$Sha", "fillUpWithZeros", "()V"⟩ prog_5_method_11_code 1 none ∈ GT := (List.mem_append_right _ (List.mem_append_right _ (List.mem_append_right _ (List.mem_append_right _ (List.mem_append_right _ (List.mem_append_right _ (List.mem_append_right _ (List.mem_append_right _ (List.mem_append_right _ (List.mem_append_left _ (List.mem_of_getElem? (i := 37) rfl)))))))))))
theorem gm_398 : Cond.methodLink "DigestBox$Sha" 66 ⟨"java/util/Arrays", "fill", "([BIIB)V"⟩ ∈ GT := (List.mem_append_right _ (List.mem_append_right _ (List.mem_append_right _ (List.mem_append_right _ (List.mem_append_right _ (List.mem_append_right _ (List.mem_append_right _ (List.mem_append_right _ (List.mem_append_right _ (List.mem_append_left _ (List.mem_of_getElem? (i := 38) rfl)))))))))))
theorem gm_399 : Cond.static ⟨"java/util/Arrays", "fill", "([BIIB)V"⟩ ∈ GT := (List.mem_append_right _ (List.mem_append_right _ (List.mem_append_right _ (List.mem_append_right _ (List.mem_append_right _ (List.mem_append_right _ (List.mem_append_right _ (List.mem_append_right _ (List.mem_append_right _ (List.mem_append_left _ (List.mem_of_getElem? (i := 39) rfl)))))))))))
theorem gm_400 : Cond.code ⟨"java/util/Arrays", "fill", "([BIIB)V"⟩ prog_25_method_110_code 5 none ∈ GT := (List.mem_append_right _ (List.mem_append_right _ (List.mem_append_right _ (List.mem_append_right _ (List.mem_append_right _ (List.mem_append_right _ (List.mem_append_right _ (List.mem_append_right _ (List.mem_append_right _ (List.mem_append_right _ (List.mem_append_left _ (List.mem_of_getElem? (i := 0) rfl))))))))))))
theorem gm_401 : Cond.methodLink "java/util/Arrays" 13 ⟨"java/util/Arrays", "rangeCheck", "(III)V"⟩ ∈ GT := (List.mem_append_right _ (List.mem_append_right _ (List.mem_append_right _ (List.mem_append_right _ (List.mem_append_right _ (List.mem_append_right _ (List.mem_append_right _ (List.mem_append_right _ (List.mem_append_right _ (List.mem_append_right _ (List.mem_append_left _ (List.mem_of_getElem? (i := 1) rfl))))))))))))
theorem gm_402 : Cond.static ⟨"java/util/Arrays", "rangeCheck", "(III)V"⟩ ∈ GT := (List.mem_append_right _ (List.mem_append_right _ (List.mem_append_right _ (List.mem_append_right _ (List.mem_append_right _ (List.mem_append_right _ (List.mem_append_right _ (List.mem_append_right _ (List.mem_append_right _ (List.mem_append_right _ (List.mem_append_left _ (List.mem_of_getElem? (i := 2) rfl))))))))))))
theorem gm_403 : Cond.code ⟨"java/util/Arrays", "rangeCheck", "(III)V"⟩ prog_25_method_30_code 3 none ∈ GT := (List.mem_append_right _ (List.mem_append_right _ (List.mem_append_right _ (List.mem_append_right _ (List.mem_append_right _ (List.mem_append_right _ (List.mem_append_right _ (List.mem_append_right _ (List.mem_append_right _ (List.mem_append_right _ (List.mem_append_left _ (List.mem_of_getElem? (i := 3) rfl))))))))))))
theorem gm_404 : Cond.classLink "java/util/Arrays" 43 "java/lang/IllegalArgumentException" ∈ GT := (List.mem_append_right _ (List.mem_append_right _ (List.mem_append_right _ (List.mem_append_right _ (List.mem_append_right _ (List.mem_append_right _ (List.mem_append_right _ (List.mem_append_right _ (List.mem_append_right _ (List.mem_append_right _ (List.mem_append_left _ (List.mem_of_getElem? (i := 4) rfl))))))))))))
theorem gm_405 : Cond.methodLink "java/util/Arrays" 343 ⟨"java/util/Arrays", "checkLength", "(II)V"⟩ ∈ GT := (List.mem_append_right _ (List.mem_append_right _ (List.mem_append_right _ (List.mem_append_right _ (List.mem_append_right _ (List.mem_append_right _ (List.mem_append_right _ (List.mem_append_right _ (List.mem_append_right _ (List.mem_append_right _ (List.mem_append_left _ (List.mem_of_getElem? (i := 5) rfl))))))))))))
theorem gm_406 : Cond.static ⟨"java/util/Arrays", "checkLength", "(II)V"⟩ ∈ GT := (List.mem_append_right _ (List.mem_append_right _ (List.mem_append_right _ (List.mem_append_right _ (List.mem_append_right _ (List.mem_append_right _ (List.mem_append_right _ (List.mem_append_right _ (List.mem_append_right _ (List.mem_append_right _ (List.mem_append_left _ (List.mem_of_getElem? (i := 6) rfl))))))))))))
theorem gm_407 : Cond.code ⟨"java/util/Arrays", "checkLength", "(II)V"⟩ prog_25_method_131_code 2 none ∈ GT := (List.mem_append_right _ (List.mem_append_right _ (List.mem_append_right _ (List.mem_append_right _ (List.mem_append_right _ (List.mem_append_right _ (List.mem_append_right _ (List.mem_append_right _ (List.mem_append_right _ (List.mem_append_right _ (List.mem_append_left _ (List.mem_of_getElem? (i := 7) rfl))))))))))))
theorem gm_408 : Cond.methodLink "java/util/Arrays" 65 ⟨"java/lang/IllegalArgumentException", "<init>", "(Ljava/lang/String;)V"⟩ ∈ GT := (List.mem_append_right _ (List.mem_append_right _ (List.mem_append_right _ (List.mem_append_right _ (List.mem_append_right _ (List.mem_append_right _ (List.mem_append_right _ (List.mem_append_right _ (List.mem_append_right _ (List.mem_append_right _ (List.mem_append_left _ (List.mem_of_getElem? (i := 8) rfl))))))))))))
theorem gm_409 : Cond.instanceMethod ⟨"java/lang/IllegalArgumentException", "<init>", "(Ljava/lang/String;)V"⟩ ∈ GT := (List.mem_append_right _ (List.mem_append_right _ (List.mem_append_right _ (List.mem_append_right _ (List.mem_append_right _ (List.mem_append_right _ (List.mem_append_right _ (List.mem_append_right _ (List.mem_append_right _ (List.mem_append_right _ (List.mem_append_left _ (List.mem_of_getElem? (i := 9) rfl))))))))))))
theorem gm_410 : Cond.code ⟨"java/lang/IllegalArgumentException", "<init>", "(Ljava/lang/String;)V"⟩ prog_13_method_2_code 2 none ∈ GT := (List.mem_append_right _ (List.mem_append_right _ (List.mem_append_right _ (List.mem_append_right _ (List.mem_append_right _ (List.mem_append_right _ (List.mem_append_right _ (List.mem_append_right _ (List.mem_append_right _ (List.mem_append_right _ (List.mem_append_left _ (List.mem_of_getElem? (i := 10) rfl))))))))))))
theorem gm_411 : Cond.methodLink "java/lang/IllegalArgumentException" 7 ⟨"java/lang/RuntimeException", "<init>", "(Ljava/lang/String;)V"⟩ ∈ GT := (List.mem_append_right _ (List.mem_append_right _ (List.mem_append_right _ (List.mem_append_right _ (List.mem_append_right _ (List.mem_append_right _ (List.mem_append_right _ (List.mem_append_right _ (List.mem_append_right _ (List.mem_append_right _ (List.mem_append_left _ (List.mem_of_getElem? (i := 11) rfl))))))))))))
theorem gm_412 : Cond.instanceMethod ⟨"java/lang/RuntimeException", "<init>", "(Ljava/lang/String;)V"⟩ ∈ GT := (List.mem_append_right _ (List.mem_append_right _ (List.mem_append_right _ (List.mem_append_right _ (List.mem_append_right _ (List.mem_append_right _ (List.mem_append_right _ (List.mem_append_right _ (List.mem_append_right _ (List.mem_append_right _ (List.mem_append_left _ (List.mem_of_getElem? (i := 12) rfl))))))))))))
theorem gm_413 : Cond.code ⟨"java/lang/RuntimeException", "<init>", "(Ljava/lang/String;)V"⟩ prog_18_method_2_code 2 none ∈ GT := (List.mem_append_right _ (List.mem_append_right _ (List.mem_append_right _ (List.mem_append_right _ (List.mem_append_right _ (List.mem_append_right _ (List.mem_append_right _ (List.mem_append_right _ (List.mem_append_right _ (List.mem_append_right _ (List.mem_append_left _ (List.mem_of_getElem? (i := 13) rfl))))))))))))
theorem gm_414 : Cond.methodLink "java/lang/RuntimeException" 7 ⟨"java/lang/Exception", "<init>", "(Ljava/lang/String;)V"⟩ ∈ GT := (List.mem_append_right _ (List.mem_append_right _ (List.mem_append_right _ (List.mem_append_right _ (List.mem_append_right _ (List.mem_append_right _ (List.mem_append_right _ (List.mem_append_right _ (List.mem_append_right _ (List.mem_append_right _ (List.mem_append_left _ (List.mem_of_getElem? (i := 14) rfl))))))))))))
theorem gm_415 : Cond.instanceMethod ⟨"java/lang/Exception", "<init>", "(Ljava/lang/String;)V"⟩ ∈ GT := (List.mem_append_right _ (List.mem_append_right _ (List.mem_append_right _ (List.mem_append_right _ (List.mem_append_right _ (List.mem_append_right _ (List.mem_append_right _ (List.mem_append_right _ (List.mem_append_right _ (List.mem_append_right _ (List.mem_append_left _ (List.mem_of_getElem? (i := 15) rfl))))))))))))
theorem gm_416 : Cond.code ⟨"java/lang/Exception", "<init>", "(Ljava/lang/String;)V"⟩ prog_12_method_2_code 2 none ∈ GT := (List.mem_append_right _ (List.mem_append_right _ (List.mem_append_right _ (List.mem_append_right _ (List.mem_append_right _ (List.mem_append_right _ (List.mem_append_right _ (List.mem_append_right _ (List.mem_append_right _ (List.mem_append_right _ (List.mem_append_left _ (List.mem_of_getElem? (i := 16) rfl))))))))))))
theorem gm_417 : Cond.methodLink "java/lang/Exception" 7 ⟨"java/lang/Throwable", "<init>", "(Ljava/lang/String;)V"⟩ ∈ GT := (List.mem_append_right _ (List.mem_append_right _ (List.mem_append_right _ (List.mem_append_right _ (List.mem_append_right _ (List.mem_append_right _ (List.mem_append_right _ (List.mem_append_right _ (List.mem_append_right _ (List.mem_append_right _ (List.mem_append_left _ (List.mem_of_getElem? (i := 17) rfl))))))))))))
theorem gm_418 : Cond.instanceMethod ⟨"java/lang/Throwable", "<init>", "(Ljava/lang/String;)V"⟩ ∈ GT := (List.mem_append_right _ (List.mem_append_right _ (List.mem_append_right _ (List.mem_append_right _ (List.mem_append_right _ (List.mem_append_right _ (List.mem_append_right _ (List.mem_append_right _ (List.mem_append_right _ (List.mem_append_right _ (List.mem_append_left _ (List.mem_of_getElem? (i := 18) rfl))))))))))))
theorem gm_419 : Cond.code ⟨"java/lang/Throwable", "<init>", "(Ljava/lang/String;)V"⟩ prog_24_method_2_code 2 none ∈ GT := (List.mem_append_right _ (List.mem_append_right _ (List.mem_append_right _ (List.mem_append_right _ (List.mem_append_right _ (List.mem_append_right _ (List.mem_append_right _ (List.mem_append_right _ (List.mem_append_right _ (List.mem_append_right _ (List.mem_append_left _ (List.mem_of_getElem? (i := 19) rfl))))))))))))
theorem gm_420 : Cond.instanceMethod ⟨"java/lang/IndexOutOfBoundsException", "<init>", "(Ljava/lang/String;)V"⟩ ∈ GT := (List.mem_append_right _ (List.mem_append_right _ (List.mem_append_right _ (List.mem_append_right _ (List.mem_append_right _ (List.mem_append_right _ (List.mem_append_right _ (List.mem_append_right _ (List.mem_append_right _ (List.mem_append_right _ (List.mem_append_left _ (List.mem_of_getElem? (i := 20) rfl))))))))))))
theorem gm_421 : Cond.code ⟨"java/lang/IndexOutOfBoundsException", "<init>", "(Ljava/lang/String;)V"⟩ prog_15_method_2_code 2 none ∈ GT := (List.mem_append_right _ (List.mem_append_right _ (List.mem_append_right _ (List.mem_append_right _ (List.mem_append_right _ (List.mem_append_right _ (List.mem_append_right _ (List.mem_append_right _ (List.mem_append_right _ (List.mem_append_right _ (List.mem_append_left _ (List.mem_of_getElem? (i := 21) rfl))))))))))))
theorem gm_422 : Cond.methodLink "java/lang/IndexOutOfBoundsException" 7 ⟨"java/lang/RuntimeException", "<init>", "(Ljava/lang/String;)V"⟩ ∈ GT := (List.mem_append_right _ (List.mem_append_right _ (List.mem_append_right _ (List.mem_append_right _ (List.mem_append_right _ (List.mem_append_right _ (List.mem_append_right _ (List.mem_append_right _ (List.mem_append_right _ (List.mem_append_right _ (List.mem_append_left _ (List.mem_of_getElem? (i := 22) rfl))))))))))))
theorem gm_423 : Cond.methodLink "DigestBox$Sha" 59 ⟨"DigestBox$Sha", "writeLengthInBits", "()V"⟩ ∈ GT := (List.mem_append_right _ (List.mem_append_right _ (List.mem_append_right _ (List.mem_append_right _ (List.mem_append_right _ (List.mem_append_right _ (List.mem_append_right _ (List.mem_append_right _ (List.mem_append_right _ (List.mem_append_right _ (List.mem_append_left _ (List.mem_of_getElem? (i := 23) rfl))))))))))))
theorem gm_424 : Cond.instanceMethod ⟨"DigestBox$Sha", "writeLengthInBits", "()V"⟩ ∈ GT := (List.mem_append_right _ (List.mem_append_right _ (List.mem_append_right _ (List.mem_append_right _ (List.mem_append_right _ (List.mem_append_right _ (List.mem_append_right _ (List.mem_append_right _ (List.mem_append_right _ (List.mem_append_right _ (List.mem_append_left _ (List.mem_of_getElem? (i := 24) rfl))))))))))))
theorem gm_425 : Cond.code ⟨"DigestBox$Sha", "writeLengthInBits", "()V"⟩ prog_5_method_12_code 4 none ∈ GT := (List.mem_append_right _ (List.mem_append_right _ (List.mem_append_right _ (List.mem_append_right _ (List.mem_append_right _ (List.mem_append_right _ (List.mem_append_right _ (List.mem_append_right _ (List.mem_append_right _ (List.mem_append_right _ (List.mem_append_left _ (List.mem_of_getElem? (i := 25) rfl))))))))))))
theorem gm_426 : Cond.constantLong "DigestBox$Sha" 72 8 ∈ GT := (List.mem_append_right _ (List.mem_append_right _ (List.mem_append_right _ (List.mem_append_right _ (List.mem_append_right _ (List.mem_append_right _ (List.mem_append_right _ (List.mem_append_right _ (List.mem_append_right _ (List.mem_append_right _ (List.mem_append_left _ (List.mem_of_getElem? (i := 26) rfl))))))))))))
theorem gm_427 : Cond.methodLink "DigestBox$Sha" 62 ⟨"DigestBox$Sha", "writeHash", "([BI)V"⟩ ∈ GT := (List.mem_append_right _ (List.mem_append_right _ (List.mem_append_right _ (List.mem_append_right _ (List.mem_append_right _ (List.mem_append_right _ (List.mem_append_right _ (List.mem_append_right _ (List.mem_append_right _ (List.mem_append_right _ (List.mem_append_left _ (List.mem_of_getElem? (i := 27) rfl))))))))))))
theorem gm_428 : Cond.instanceMethod ⟨"DigestBox$Sha", "writeHash", "([BI)V"⟩ ∈ GT := (List.mem_append_right _ (List.mem_append_right _ (List.mem_append_right _ (List.mem_append_right _ (List.mem_append_right _ (List.mem_append_right _ (List.mem_append_right _ (List.mem_append_right _ (List.mem_append_right _ (List.mem_append_right _ (List.mem_append_left _ (List.mem_of_getElem? (i := 28) rfl))))))))))))
theorem gm_429 : Cond.code ⟨"DigestBox$Sha", "writeHash", "([BI)V"⟩ prog_5_method_13_code 5 none ∈ GT := (List.mem_append_right _ (List.mem_append_right _ (List.mem_append_right _ (List.mem_append_right _ (List.mem_append_right _ (List.mem_append_right _ (List.mem_append_right _ (List.mem_append_right _ (List.mem_append_right _ (List.mem_append_right _ (List.mem_append_left _ (List.mem_of_getElem? (i := 29) rfl))))))))))))
theorem gm_430 : Cond.methodLink "DigestBoxLaw" 86 ⟨"DigestBoxLaw", "hmac", "(LDigestBox;I[J)I"⟩ ∈ GT := (List.mem_append_right _ (List.mem_append_right _ (List.mem_append_right _ (List.mem_append_right _ (List.mem_append_right _ (List.mem_append_right _ (List.mem_append_right _ (List.mem_append_right _ (List.mem_append_right _ (List.mem_append_right _ (List.mem_append_left _ (List.mem_of_getElem? (i := 30) rfl))))))))))))
theorem gm_431 : Cond.static ⟨"DigestBoxLaw", "hmac", "(LDigestBox;I[J)I"⟩ ∈ GT := (List.mem_append_right _ (List.mem_append_right _ (List.mem_append_right _ (List.mem_append_right _ (List.mem_append_right _ (List.mem_append_right _ (List.mem_append_right _ (List.mem_append_right _ (List.mem_append_right _ (List.mem_append_right _ (List.mem_append_left _ (List.mem_of_getElem? (i := 31) rfl))))))))))))
theorem gm_432 : Cond.codeWith ⟨"DigestBoxLaw", "hmac", "(LDigestBox;I[J)I"⟩ method_8_code 4 (some .int) [(0, 9, 12, 25)] ∈ GT := (List.mem_append_right _ (List.mem_append_right _ (List.mem_append_right _ (List.mem_append_right _ (List.mem_append_right _ (List.mem_append_right _ (List.mem_append_right _ (List.mem_append_right _ (List.mem_append_right _ (List.mem_append_right _ (List.mem_append_left _ (List.mem_of_getElem? (i := 32) rfl))))))))))))
theorem gm_433 : Cond.methodLink "DigestBoxLaw" 34 ⟨"DigestBox", "hmac", "(I)I"⟩ ∈ GT := (List.mem_append_right _ (List.mem_append_right _ (List.mem_append_right _ (List.mem_append_right _ (List.mem_append_right _ (List.mem_append_right _ (List.mem_append_right _ (List.mem_append_right _ (List.mem_append_right _ (List.mem_append_right _ (List.mem_append_left _ (List.mem_of_getElem? (i := 33) rfl))))))))))))
theorem gm_434 : Cond.instanceMethod ⟨"DigestBox", "hmac", "(I)I"⟩ ∈ GT := (List.mem_append_right _ (List.mem_append_right _ (List.mem_append_right _ (List.mem_append_right _ (List.mem_append_right _ (List.mem_append_right _ (List.mem_append_right _ (List.mem_append_right _ (List.mem_append_right _ (List.mem_append_right _ (List.mem_append_left _ (List.mem_of_getElem? (i := 34) rfl))))))))))))
theorem gm_435 : Cond.selects "DigestBox" ⟨"DigestBox", "hmac", "(I)I"⟩ ⟨"DigestBox", "hmac", "(I)I"⟩ ∈ GT := (List.mem_append_right _ (List.mem_append_right _ (List.mem_append_right _ (List.mem_append_right _ (List.mem_append_right _ (List.mem_append_right _ (List.mem_append_right _ (List.mem_append_right _ (List.mem_append_right _ (List.mem_append_right _ (List.mem_append_left _ (List.mem_of_getElem? (i := 35) rfl))))))))))))
theorem gm_436 : Cond.code ⟨"DigestBox", "hmac", "(I)I"⟩ prog_1_method_9_code 3 (some .int) ∈ GT := (List.mem_append_right _ (List.mem_append_right _ (List.mem_append_right _ (List.mem_append_right _ (List.mem_append_right _ (List.mem_append_right _ (List.mem_append_right _ (List.mem_append_right _ (List.mem_append_right _ (List.mem_append_right _ (List.mem_append_left _ (List.mem_of_getElem? (i := 36) rfl))))))))))))
theorem gm_437 : Cond.instanceMethod ⟨"DigestBox$Mac", "setKey", "(LDigestBox$Row;)V"⟩ ∈ GT := (List.mem_append_right _ (List.mem_append_right _ (List.mem_append_right _ (List.mem_append_right _ (List.mem_append_right _ (List.mem_append_right _ (List.mem_append_right _ (List.mem_append_right _ (List.mem_append_right _ (List.mem_append_right _ (List.mem_append_left _ (List.mem_of_getElem? (i := 37) rfl))))))))))))
theorem gm_438 : Cond.code ⟨"DigestBox$Mac", "setKey", "(LDigestBox$Row;)V"⟩ prog_2_method_2_code 3 none ∈ GT := (List.mem_append_right _ (List.mem_append_right _ (List.mem_append_right _ (List.mem_append_right _ (List.mem_append_right _ (List.mem_append_right _ (List.mem_append_right _ (List.mem_append_right _ (List.mem_append_right _ (List.mem_append_right _ (List.mem_append_left _ (List.mem_of_getElem? (i := 38) rfl))))))))))))
theorem gm_439 : Cond.methodLink "DigestBox$Mac" 39 ⟨"DigestBox$Mac", "fillKeyBlock", "(LDigestBox$Row;)V"⟩ ∈ GT := (List.mem_append_right _ (List.mem_append_right _ (List.mem_append_right _ (List.mem_append_right _ (List.mem_append_right _ (List.mem_append_right _ (List.mem_append_right _ (List.mem_append_right _ (List.mem_append_right _ (List.mem_append_right _ (List.mem_append_left _ (List.mem_of_getElem? (i := 39) rfl))))))))))))
theorem gm_440 : Cond.instanceMethod ⟨"DigestBox$Mac", "fillKeyBlock", "(LDigestBox$Row;)V"⟩ ∈ GT := (List.mem_append_right _ (List.mem_append_right _ (List.mem_append_right _ (List.mem_append_right _ (List.mem_append_right _ (List.mem_append_right _ (List.mem_append_right _ (List.mem_append_right _ (List.mem_append_right _ (List.mem_append_right _ (List.mem_append_right _ (List.mem_append_left _ (List.mem_of_getElem? (i := 0) rfl)))))))))))))
theorem gm_441 : Cond.code ⟨"DigestBox$Mac", "fillKeyBlock", "(LDigestBox$Row;)V"⟩ prog_2_method_3_code 2 none ∈ GT := (List.mem_append_right _ (List.mem_append_right _ (List.mem_append_right _ (List.mem_append_right _ (List.mem_append_right _ (List.mem_append_right _ (List.mem_append_right _ (List.mem_append_right _ (List.mem_append_right _ (List.mem_append_right _ (List.mem_append_right _ (List.mem_append_left _ (List.mem_of_getElem? (i := 1) rfl)))))))))))))
theorem gm_442 : Cond.methodLink "DigestBox$Mac" 50 ⟨"java/util/Arrays", "fill", "([BB)V"⟩ ∈ GT := (List.mem_append_right _ (List.mem_append_right _ (List.mem_append_right _ (List.mem_append_right _ (List.mem_append_right _ (List.mem_append_right _ (List.mem_append_right _ (List.mem_append_right _ (List.mem_append_right _ (List.mem_append_right _ (List.mem_append_right _ (List.mem_append_left _ (List.mem_of_getElem? (i := 2) rfl)))))))))))))
theorem gm_443 : Cond.static ⟨"java/util/Arrays", "fill", "([BB)V"⟩ ∈ GT := (List.mem_append_right _ (List.mem_append_right _ (List.mem_append_right _ (List.mem_append_right _ (List.mem_append_right _ (List.mem_append_right _ (List.mem_append_right _ (List.mem_append_right _ (List.mem_append_right _ (List.mem_append_right _ (List.mem_append_right _ (List.mem_append_left _ (List.mem_of_getElem? (i := 3) rfl)))))))))))))
theorem gm_444 : Cond.code ⟨"java/util/Arrays", "fill", "([BB)V"⟩ prog_25_method_109_code 4 none ∈ GT := (List.mem_append_right _ (List.mem_append_right _ (List.mem_append_right _ (List.mem_append_right _ (List.mem_append_right _ (List.mem_append_right _ (List.mem_append_right _ (List.mem_append_right _ (List.mem_append_right _ (List.mem_append_right _ (List.mem_append_right _ (List.mem_append_left _ (List.mem_of_getElem? (i := 4) rfl)))))))))))))
theorem gm_445 : Cond.methodLink "DigestBox$Mac" 75 ⟨"java/lang/System", "arraycopy", "(Ljava/lang/Object;ILjava/lang/Object;II)V"⟩ ∈ GT := (List.mem_append_right _ (List.mem_append_right _ (List.mem_append_right _ (List.mem_append_right _ (List.mem_append_right _ (List.mem_append_right _ (List.mem_append_right _ (List.mem_append_right _ (List.mem_append_right _ (List.mem_append_right _ (List.mem_append_right _ (List.mem_append_left _ (List.mem_of_getElem? (i := 5) rfl)))))))))))))
theorem gm_446 : Cond.methodLink "DigestBox$Mac" 43 ⟨"DigestBox$Mac", "startWith", "(I[J)V"⟩ ∈ GT := (List.mem_append_right _ (List.mem_append_right _ (List.mem_append_right _ (List.mem_append_right _ (List.mem_append_right _ (List.mem_append_right _ (List.mem_append_right _ (List.mem_append_right _ (List.mem_append_right _ (List.mem_append_right _ (List.mem_append_right _ (List.mem_append_left _ (List.mem_of_getElem? (i := 6) rfl)))))))))))))
theorem gm_447 : Cond.instanceMethod ⟨"DigestBox$Mac", "startWith", "(I[J)V"⟩ ∈ GT := (List.mem_append_right _ (List.mem_append_right _ (List.mem_append_right _ (List.mem_append_right _ (List.mem_append_right _ (List.mem_append_right _ (List.mem_append_right _ (List.mem_append_right _ (List.mem_append_right _ (List.mem_append_right _ (List.mem_append_right _ (List.mem_append_left _ (List.mem_of_getElem? (i := 7) rfl)))))))))))))
theorem gm_448 : Cond.code ⟨"DigestBox$Mac", "startWith", "(I[J)V"⟩ prog_2_method_4_code 4 none ∈ GT := (List.mem_append_right _ (List.mem_append_right _ (List.mem_append_right _ (List.mem_append_right _ (List.mem_append_right _ (List.mem_append_right _ (List.mem_append_right _ (List.mem_append_right _ (List.mem_append_right _ (List.mem_append_right _ (List.mem_append_right _ (List.mem_append_left _ (List.mem_of_getElem? (i := 8) rfl)))))))))))))
theorem gm_449 : Cond.instanceMethod ⟨"DigestBox$Sha", "takeByte", "(I)V"⟩ ∈ GT := (List.mem_append_right _ (List.mem_append_right _ (List.mem_append_right _ (List.mem_append_right _ (List.mem_append_right _ (List.mem_append_right _ (List.mem_append_right _ (List.mem_append_right _ (List.mem_append_right _ (List.mem_append_right _ (List.mem_append_right _ (List.mem_append_left _ (List.mem_of_getElem? (i := 9) rfl)))))))))))))
theorem gm_450 : Cond.code ⟨"DigestBox$Sha", "takeByte", "(I)V"⟩ prog_5_method_8_code 2 none ∈ GT := (List.mem_append_right _ (List.mem_append_right _ (List.mem_append_right _ (List.mem_append_right _ (List.mem_append_right _ (List.mem_append_right _ (List.mem_append_right _ (List.mem_append_right _ (List.mem_append_right _ (List.mem_append_right _ (List.mem_append_right _ (List.mem_append_left _ (List.mem_of_getElem? (i := 10) rfl)))))))))))))
theorem gm_451 : Cond.instanceMethod ⟨"DigestBox$Mac", "beginText", "()V"⟩ ∈ GT := (List.mem_append_right _ (List.mem_append_right _ (List.mem_append_right _ (List.mem_append_right _ (List.mem_append_right _ (List.mem_append_right _ (List.mem_append_right _ (List.mem_append_right _ (List.mem_append_right _ (List.mem_append_right _ (List.mem_append_right _ (List.mem_append_left _ (List.mem_of_getElem? (i := 11) rfl)))))))))))))
theorem gm_452 : Cond.code ⟨"DigestBox$Mac", "beginText", "()V"⟩ prog_2_method_5_code 1 none ∈ GT := (List.mem_append_right _ (List.mem_append_right _ (List.mem_append_right _ (List.mem_append_right _ (List.mem_append_right _ (List.mem_append_right _ (List.mem_append_right _ (List.mem_append_right _ (List.mem_append_right _ (List.mem_append_right _ (List.mem_append_right _ (List.mem_append_left _ (List.mem_of_getElem? (i := 12) rfl)))))))))))))
theorem gm_453 : Cond.instanceMethod ⟨"DigestBox$Mac", "closeText", "([BI)V"⟩ ∈ GT := (List.mem_append_right _ (List.mem_append_right _ (List.mem_append_right _ (List.mem_append_right _ (List.mem_append_right _ (List.mem_append_right _ (List.mem_append_right _ (List.mem_append_right _ (List.mem_append_right _ (List.mem_append_right _ (List.mem_append_right _ (List.mem_append_left _ (List.mem_of_getElem? (i := 13) rfl)))))))))))))
theorem gm_454 : Cond.code ⟨"DigestBox$Mac", "closeText", "([BI)V"⟩ prog_2_method_6_code 3 none ∈ GT := (List.mem_append_right _ (List.mem_append_right _ (List.mem_append_right _ (List.mem_append_right _ (List.mem_append_right _ (List.mem_append_right _ (List.mem_append_right _ (List.mem_append_right _ (List.mem_append_right _ (List.mem_append_right _ (List.mem_append_right _ (List.mem_append_left _ (List.mem_of_getElem? (i := 14) rfl)))))))))))))
theorem gm_455 : Cond.methodLink "DigestBoxLaw" 89 ⟨"DigestBoxLaw", "expand", "(LDigestBox;II[J)I"⟩ ∈ GT := (List.mem_append_right _ (List.mem_append_right _ (List.mem_append_right _ (List.mem_append_right _ (List.mem_append_right _ (List.mem_append_right _ (List.mem_append_right _ (List.mem_append_right _ (List.mem_append_right _ (List.mem_append_right _ (List.mem_append_right _ (List.mem_append_left _ (List.mem_of_getElem? (i := 15) rfl)))))))))))))
theorem gm_456 : Cond.static ⟨"DigestBoxLaw", "expand", "(LDigestBox;II[J)I"⟩ ∈ GT := (List.mem_append_right _ (List.mem_append_right _ (List.mem_append_right _ (List.mem_append_right _ (List.mem_append_right _ (List.mem_append_right _ (List.mem_append_right _ (List.mem_append_right _ (List.mem_append_right _ (List.mem_append_right _ (List.mem_append_right _ (List.mem_append_left _ (List.mem_of_getElem? (i := 16) rfl)))))))))))))
theorem gm_457 : Cond.codeWith ⟨"DigestBoxLaw", "expand", "(LDigestBox;II[J)I"⟩ method_9_code 5 (some .int) [(0, 10, 13, 25), (0, 10, 17, 19)] ∈ GT := (List.mem_append_right _ (List.mem_append_right _ (List.mem_append_right _ (List.mem_append_right _ (List.mem_append_right _ (List.mem_append_right _ (List.mem_append_right _ (List.mem_append_right _ (List.mem_append_right _ (List.mem_append_right _ (List.mem_append_right _ (List.mem_append_left _ (List.mem_of_getElem? (i := 17) rfl)))))))))))))
theorem gm_458 : Cond.methodLink "DigestBoxLaw" 37 ⟨"DigestBox", "expand", "(II)I"⟩ ∈ GT := (List.mem_append_right _ (List.mem_append_right _ (List.mem_append_right _ (List.mem_append_right _ (List.mem_append_right _ (List.mem_append_right _ (List.mem_append_right _ (List.mem_append_right _ (List.mem_append_right _ (List.mem_append_right _ (List.mem_append_right _ (List.mem_append_left _ (List.mem_of_getElem? (i := 18) rfl)))))))))))))
theorem gm_459 : Cond.instanceMethod ⟨"DigestBox", "expand", "(II)I"⟩ ∈ GT := (List.mem_append_right _ (List.mem_append_right _ (List.mem_append_right _ (List.mem_append_right _ (List.mem_append_right _ (List.mem_append_right _ (List.mem_append_right _ (List.mem_append_right _ (List.mem_append_right _ (List.mem_append_right _ (List.mem_append_right _ (List.mem_append_left _ (List.mem_of_getElem? (i := 19) rfl)))))))))))))
theorem gm_460 : Cond.selects "DigestBox" ⟨"DigestBox", "expand", "(II)I"⟩ ⟨"DigestBox", "expand", "(II)I"⟩ ∈ GT := (List.mem_append_right _ (List.mem_append_right _ (List.mem_append_right _ (List.mem_append_right _ (List.mem_append_right _ (List.mem_append_right _ (List.mem_append_right _ (List.mem_append_right _ (List.mem_append_right _ (List.mem_append_right _ (List.mem_append_right _ (List.mem_append_left _ (List.mem_of_getElem? (i := 20) rfl)))))))))))))
theorem gm_461 : Cond.code ⟨"DigestBox", "expand", "(II)I"⟩ prog_1_method_10_code 3 (some .int) ∈ GT := (List.mem_append_right _ (List.mem_append_right _ (List.mem_append_right _ (List.mem_append_right _ (List.mem_append_right _ (List.mem_append_right _ (List.mem_append_right _ (List.mem_append_right _ (List.mem_append_right _ (List.mem_append_right _ (List.mem_append_right _ (List.mem_append_left _ (List.mem_of_getElem? (i := 21) rfl)))))))))))))
theorem gm_462 : Cond.methodLink "DigestBox" 121 ⟨"DigestBox", "checkExpandedLength", "(II)V"⟩ ∈ GT := (List.mem_append_right _ (List.mem_append_right _ (List.mem_append_right _ (List.mem_append_right _ (List.mem_append_right _ (List.mem_append_right _ (List.mem_append_right _ (List.mem_append_right _ (List.mem_append_right _ (List.mem_append_right _ (List.mem_append_right _ (List.mem_append_left _ (List.mem_of_getElem? (i := 22) rfl)))))))))))))
theorem gm_463 : Cond.instanceMethod ⟨"DigestBox", "checkExpandedLength", "(II)V"⟩ ∈ GT := (List.mem_append_right _ (List.mem_append_right _ (List.mem_append_right _ (List.mem_append_right _ (List.mem_append_right _ (List.mem_append_right _ (List.mem_append_right _ (List.mem_append_right _ (List.mem_append_right _ (List.mem_append_right _ (List.mem_append_right _ (List.mem_append_left _ (List.mem_of_getElem? (i := 23) rfl)))))))))))))
theorem gm_464 : Cond.code ⟨"DigestBox", "checkExpandedLength", "(II)V"⟩ prog_1_method_15_code 3 none ∈ GT := (List.mem_append_right _ (List.mem_append_right _ (List.mem_append_right _ (List.mem_append_right _ (List.mem_append_right _ (List.mem_append_right _ (List.mem_append_right _ (List.mem_append_right _ (List.mem_append_right _ (List.mem_append_right _ (List.mem_append_right _ (List.mem_append_left _ (List.mem_of_getElem? (i := 24) rfl)))))))))))))
theorem gm_465 : Cond.methodLink "DigestBox" 125 ⟨"DigestBox", "expandKey", "(LDigestBox$Mac;ILDigestBox$Row;)V"⟩ ∈ GT := (List.mem_append_right _ (List.mem_append_right _ (List.mem_append_right _ (List.mem_append_right _ (List.mem_append_right _ (List.mem_append_right _ (List.mem_append_right _ (List.mem_append_right _ (List.mem_append_right _ (List.mem_append_right _ (List.mem_append_right _ (List.mem_append_left _ (List.mem_of_getElem? (i := 25) rfl)))))))))))))
theorem gm_466 : Cond.instanceMethod ⟨"DigestBox", "expandKey", "(LDigestBox$Mac;ILDigestBox$Row;)V"⟩ ∈ GT := (List.mem_append_right _ (List.mem_append_right _ (List.mem_append_right _ (List.mem_append_right _ (List.mem_append_right _ (List.mem_append_right _ (List.mem_append_right _ (List.mem_append_right _ (List.mem_append_right _ (List.mem_append_right _ (List.mem_append_right _ (List.mem_append_left _ (List.mem_of_getElem? (i := 26) rfl)))))))))))))
theorem gm_467 : Cond.code ⟨"DigestBox", "expandKey", "(LDigestBox$Mac;ILDigestBox$Row;)V"⟩ prog_1_method_20_code 8 none ∈ GT := (List.mem_append_right _ (List.mem_append_right _ (List.mem_append_right _ (List.mem_append_right _ (List.mem_append_right _ (List.mem_append_right _ (List.mem_append_right _ (List.mem_append_right _ (List.mem_append_right _ (List.mem_append_right _ (List.mem_append_right _ (List.mem_append_left _ (List.mem_of_getElem? (i := 27) rfl)))))))))))))
theorem gm_468 : Cond.methodLink "DigestBoxLaw" 93 ⟨"DigestBoxLaw", "expandLabel", "(LDigestBox;III[J)I"⟩ ∈ GT := (List.mem_append_right _ (List.mem_append_right _ (List.mem_append_right _ (List.mem_append_right _ (List.mem_append_right _ (List.mem_append_right _ (List.mem_append_right _ (List.mem_append_right _ (List.mem_append_right _ (List.mem_append_right _ (List.mem_append_right _ (List.mem_append_left _ (List.mem_of_getElem? (i := 28) rfl)))))))))))))
theorem gm_469 : Cond.static ⟨"DigestBoxLaw", "expandLabel", "(LDigestBox;III[J)I"⟩ ∈ GT := (List.mem_append_right _ (List.mem_append_right _ (List.mem_append_right _ (List.mem_append_right _ (List.mem_append_right _ (List.mem_append_right _ (List.mem_append_right _ (List.mem_append_right _ (List.mem_append_right _ (List.mem_append_right _ (List.mem_append_right _ (List.mem_append_left _ (List.mem_of_getElem? (i := 29) rfl)))))))))))))
theorem gm_470 : Cond.codeWith ⟨"DigestBoxLaw", "expandLabel", "(LDigestBox;III[J)I"⟩ method_10_code 6 (some .int) [(0, 12, 15, 25), (0, 12, 19, 19)] ∈ GT := (List.mem_append_right _ (List.mem_append_right _ (List.mem_append_right _ (List.mem_append_right _ (List.mem_append_right _ (List.mem_append_right _ (List.mem_append_right _ (List.mem_append_right _ (List.mem_append_right _ (List.mem_append_right _ (List.mem_append_right _ (List.mem_append_left _ (List.mem_of_getElem? (i := 30) rfl)))))))))))))
theorem gm_471 : Cond.methodLink "DigestBoxLaw" 41 ⟨"DigestBox", "expandLabel", "(III)I"⟩ ∈ GT := (List.mem_append_right _ (List.mem_append_right _ (List.mem_append_right _ (List.mem_append_right _ (List.mem_append_right _ (List.mem_append_right _ (List.mem_append_right _ (List.mem_append_right _ (List.mem_append_right _ (List.mem_append_right _ (List.mem_append_right _ (List.mem_append_left _ (List.mem_of_getElem? (i := 31) rfl)))))))))))))
theorem gm_472 : Cond.instanceMethod ⟨"DigestBox", "expandLabel", "(III)I"⟩ ∈ GT := (List.mem_append_right _ (List.mem_append_right _ (List.mem_append_right _ (List.mem_append_right _ (List.mem_append_right _ (List.mem_append_right _ (List.mem_append_right _ (List.mem_append_right _ (List.mem_append_right _ (List.mem_append_right _ (List.mem_append_right _ (List.mem_append_left _ (List.mem_of_getElem? (i := 32) rfl)))))))))))))
theorem gm_473 : Cond.selects "DigestBox" ⟨"DigestBox", "expandLabel", "(III)I"⟩ ⟨"DigestBox", "expandLabel", "(III)I"⟩ ∈ GT := (List.mem_append_right _ (List.mem_append_right _ (List.mem_append_right _ (List.mem_append_right _ (List.mem_append_right _ (List.mem_append_right _ (List.mem_append_right _ (List.mem_append_right _ (List.mem_append_right _ (List.mem_append_right _ (List.mem_append_right _ (List.mem_append_left _ (List.mem_of_getElem? (i := 33) rfl)))))))))))))
theorem gm_474 : Cond.code ⟨"DigestBox", "expandLabel", "(III)I"⟩ prog_1_method_11_code 4 (some .int) ∈ GT := (List.mem_append_right _ (List.mem_append_right _ (List.mem_append_right _ (List.mem_append_right _ (List.mem_append_right _ (List.mem_append_right _ (List.mem_append_right _ (List.mem_append_right _ (List.mem_append_right _ (List.mem_append_right _ (List.mem_append_right _ (List.mem_append_left _ (List.mem_of_getElem? (i := 34) rfl)))))))))))))
theorem gm_475 : Cond.methodLink "DigestBox" 129 ⟨"DigestBox", "checkLabelLength", "(I)V"⟩ ∈ GT := (List.mem_append_right _ (List.mem_append_right _ (List.mem_append_right _ (List.mem_append_right _ (List.mem_append_right _ (List.mem_append_right _ (List.mem_append_right _ (List.mem_append_right _ (List.mem_append_right _ (List.mem_append_right _ (List.mem_append_right _ (List.mem_append_left _ (List.mem_of_getElem? (i := 35) rfl)))))))))))))
theorem gm_476 : Cond.instanceMethod ⟨"DigestBox", "checkLabelLength", "(I)V"⟩ ∈ GT := (List.mem_append_right _ (List.mem_append_right _ (List.mem_append_right _ (List.mem_append_right _ (List.mem_append_right _ (List.mem_append_right _ (List.mem_append_right _ (List.mem_append_right _ (List.mem_append_right _ (List.mem_append_right _ (List.mem_append_right _ (List.mem_append_left _ (List.mem_of_getElem? (i := 36) rfl)))))))))))))
theorem gm_477 : Cond.code ⟨"DigestBox", "checkLabelLength", "(I)V"⟩ prog_1_method_16_code 2 none ∈ GT := (List.mem_append_right _ (List.mem_append_right _ (List.mem_append_right _ (List.mem_append_right _ (List.mem_append_right _ (List.mem_append_right _ (List.mem_append_right _ (List.mem_append_right _ (List.mem_append_right _ (List.mem_append_right _ (List.mem_append_right _ (List.mem_append_left _ (List.mem_of_getElem? (i := 37) rfl)))))))))))))
theorem gm_478 : Cond.methodLink "DigestBox" 132 ⟨"DigestBox", "writeLabelInfo", "(II)V"⟩ ∈ GT := (List.mem_append_right _ (List.mem_append_right _ (List.mem_append_right _ (List.mem_append_right _ (List.mem_append_right _ (List.mem_append_right _ (List.mem_append_right _ (List.mem_append_right _ (List.mem_append_right _ (List.mem_append_right _ (List.mem_append_right _ (List.mem_append_left _ (List.mem_of_getElem? (i := 38) rfl)))))))))))))
theorem gm_479 : Cond.instanceMethod ⟨"DigestBox", "writeLabelInfo", "(II)V"⟩ ∈ GT := (List.mem_append_right _ (List.mem_append_right _ (List.mem_append_right _ (List.mem_append_right _ (List.mem_append_right _ (List.mem_append_right _ (List.mem_append_right _ (List.mem_append_right _ (List.mem_append_right _ (List.mem_append_right _ (List.mem_append_right _ (List.mem_append_left _ (List.mem_of_getElem? (i := 39) rfl)))))))))))))
theorem gm_480 : Cond.code ⟨"DigestBox", "writeLabelInfo", "(II)V"⟩ prog_1_method_19_code 4 none ∈ GT := (List.mem_append_right _ (List.mem_append_right _ (List.mem_append_right _ (List.mem_append_right _ (List.mem_append_right _ (List.mem_append_right _ (List.mem_append_right _ (List.mem_append_right _ (List.mem_append_right _ (List.mem_append_right _ (List.mem_append_right _ (List.mem_append_right _ (List.mem_append_left _ (List.mem_of_getElem? (i := 0) rfl))))))))))))))
theorem gm_481 : Cond.fieldLink "DigestBox" 154 "DigestBox" "LABEL_PREFIX" "[B" ∈ GT := (List.mem_append_right _ (List.mem_append_right _ (List.mem_append_right _ (List.mem_append_right _ (List.mem_append_right _ (List.mem_append_right _ (List.mem_append_right _ (List.mem_append_right _ (List.mem_append_right _ (List.mem_append_right _ (List.mem_append_right _ (List.mem_append_right _ (List.mem_append_left _ (List.mem_of_getElem? (i := 1) rfl))))))))))))))
theorem gm_482 : Cond.methodLink "DigestBoxLaw" 97 ⟨"DigestBoxLaw", "result", "(LDigestBox;I[J)I"⟩ ∈ GT := (List.mem_append_right _ (List.mem_append_right _ (List.mem_append_right _ (List.mem_append_right _ (List.mem_append_right _ (List.mem_append_right _ (List.mem_append_right _ (List.mem_append_right _ (List.mem_append_right _ (List.mem_append_right _ (List.mem_append_right _ (List.mem_append_right _ (List.mem_append_left _ (List.mem_of_getElem? (i := 2) rfl))))))))))))))
theorem gm_483 : Cond.static ⟨"DigestBoxLaw", "result", "(LDigestBox;I[J)I"⟩ ∈ GT := (List.mem_append_right _ (List.mem_append_right _ (List.mem_append_right _ (List.mem_append_right _ (List.mem_append_right _ (List.mem_append_right _ (List.mem_append_right _ (List.mem_append_right _ (List.mem_append_right _ (List.mem_append_right _ (List.mem_append_right _ (List.mem_append_right _ (List.mem_append_left _ (List.mem_of_getElem? (i := 3) rfl))))))))))))))
theorem gm_484 : Cond.codeWith ⟨"DigestBoxLaw", "result", "(LDigestBox;I[J)I"⟩ method_11_code 4 (some .int) [(0, 9, 12, 48)] ∈ GT := (List.mem_append_right _ (List.mem_append_right _ (List.mem_append_right _ (List.mem_append_right _ (List.mem_append_right _ (List.mem_append_right _ (List.mem_append_right _ (List.mem_append_right _ (List.mem_append_right _ (List.mem_append_right _ (List.mem_append_right _ (List.mem_append_right _ (List.mem_append_left _ (List.mem_of_getElem? (i := 4) rfl))))))))))))))
theorem gm_485 : Cond.classLink "DigestBoxLaw" 48 "java/lang/IndexOutOfBoundsException" ∈ GT := (List.mem_append_right _ (List.mem_append_right _ (List.mem_append_right _ (List.mem_append_right _ (List.mem_append_right _ (List.mem_append_right _ (List.mem_append_right _ (List.mem_append_right _ (List.mem_append_right _ (List.mem_append_right _ (List.mem_append_right _ (List.mem_append_right _ (List.mem_append_left _ (List.mem_of_getElem? (i := 5) rfl))))))))))))))
theorem gm_486 : Cond.methodLink "DigestBoxLaw" 45 ⟨"DigestBox", "result", "(I)I"⟩ ∈ GT := (List.mem_append_right _ (List.mem_append_right _ (List.mem_append_right _ (List.mem_append_right _ (List.mem_append_right _ (List.mem_append_right _ (List.mem_append_right _ (List.mem_append_right _ (List.mem_append_right _ (List.mem_append_right _ (List.mem_append_right _ (List.mem_append_right _ (List.mem_append_left _ (List.mem_of_getElem? (i := 6) rfl))))))))))))))
theorem gm_487 : Cond.instanceMethod ⟨"DigestBox", "result", "(I)I"⟩ ∈ GT := (List.mem_append_right _ (List.mem_append_right _ (List.mem_append_right _ (List.mem_append_right _ (List.mem_append_right _ (List.mem_append_right _ (List.mem_append_right _ (List.mem_append_right _ (List.mem_append_right _ (List.mem_append_right _ (List.mem_append_right _ (List.mem_append_right _ (List.mem_append_left _ (List.mem_of_getElem? (i := 7) rfl))))))))))))))
theorem gm_488 : Cond.selects "DigestBox" ⟨"DigestBox", "result", "(I)I"⟩ ⟨"DigestBox", "result", "(I)I"⟩ ∈ GT := (List.mem_append_right _ (List.mem_append_right _ (List.mem_append_right _ (List.mem_append_right _ (List.mem_append_right _ (List.mem_append_right _ (List.mem_append_right _ (List.mem_append_right _ (List.mem_append_right _ (List.mem_append_right _ (List.mem_append_right _ (List.mem_append_right _ (List.mem_append_left _ (List.mem_of_getElem? (i := 8) rfl))))))))))))))
theorem gm_489 : Cond.code ⟨"DigestBox", "result", "(I)I"⟩ prog_1_method_12_code 2 (some .int) ∈ GT := (List.mem_append_right _ (List.mem_append_right _ (List.mem_append_right _ (List.mem_append_right _ (List.mem_append_right _ (List.mem_append_right _ (List.mem_append_right _ (List.mem_append_right _ (List.mem_append_right _ (List.mem_append_right _ (List.mem_append_right _ (List.mem_append_right _ (List.mem_append_left _ (List.mem_of_getElem? (i := 9) rfl))))))))))))))
theorem gm_490 : Cond.classLink "DigestBox" 135 "java/lang/IndexOutOfBoundsException" ∈ GT := (List.mem_append_right _ (List.mem_append_right _ (List.mem_append_right _ (List.mem_append_right _ (List.mem_append_right _ (List.mem_append_right _ (List.mem_append_right _ (List.mem_append_right _ (List.mem_append_right _ (List.mem_append_right _ (List.mem_append_right _ (List.mem_append_right _ (List.mem_append_left _ (List.mem_of_getElem? (i := 10) rfl))))))))))))))
theorem gm_491 : Cond.instantiable "java/lang/IndexOutOfBoundsException" 6 ∈ GT := (List.mem_append_right _ (List.mem_append_right _ (List.mem_append_right _ (List.mem_append_right _ (List.mem_append_right _ (List.mem_append_right _ (List.mem_append_right _ (List.mem_append_right _ (List.mem_append_right _ (List.mem_append_right _ (List.mem_append_right _ (List.mem_append_right _ (List.mem_append_left _ (List.mem_of_getElem? (i := 11) rfl))))))))))))))
theorem gm_492 : Cond.selects "java/lang/IndexOutOfBoundsException" ⟨"java/lang/Throwable", "fillInStackTrace", "(I)Ljava/lang/Throwable;"⟩ ⟨"java/lang/Throwable", "fillInStackTrace", "(I)Ljava/lang/Throwable;"⟩ ∈ GT := (List.mem_append_right _ (List.mem_append_right _ (List.mem_append_right _ (List.mem_append_right _ (List.mem_append_right _ (List.mem_append_right _ (List.mem_append_right _ (List.mem_append_right _ (List.mem_append_right _ (List.mem_append_right _ (List.mem_append_right _ (List.mem_append_right _ (List.mem_append_left _ (List.mem_of_getElem? (i := 12) rfl))))))))))))))
theorem gm_493 : Cond.lays "java/lang/IndexOutOfBoundsException" "java/lang/Throwable" "cause" "Ljava/lang/Throwable;" ∈ GT := (List.mem_append_right _ (List.mem_append_right _ (List.mem_append_right _ (List.mem_append_right _ (List.mem_append_right _ (List.mem_append_right _ (List.mem_append_right _ (List.mem_append_right _ (List.mem_append_right _ (List.mem_append_right _ (List.mem_append_right _ (List.mem_append_right _ (List.mem_append_left _ (List.mem_of_getElem? (i := 13) rfl))))))))))))))
theorem gm_494 : Cond.lays "java/lang/IndexOutOfBoundsException" "java/lang/Throwable" "stackTrace" "[Ljava/lang/StackTraceElement;" ∈ GT := (List.mem_append_right _ (List.mem_append_right _ (List.mem_append_right _ (List.mem_append_right _ (List.mem_append_right _ (List.mem_append_right _ (List.mem_append_right _ (List.mem_append_right _ (List.mem_append_right _ (List.mem_append_right _ (List.mem_append_right _ (List.mem_append_right _ (List.mem_append_left _ (List.mem_of_getElem? (i := 14) rfl))))))))))))))
theorem gm_495 : Cond.lays "java/lang/IndexOutOfBoundsException" "java/lang/Throwable" "suppressedExceptions" "Ljava/util/List;" ∈ GT := (List.mem_append_right _ (List.mem_append_right _ (List.mem_append_right _ (List.mem_append_right _ (List.mem_append_right _ (List.mem_append_right _ (List.mem_append_right _ (List.mem_append_right _ (List.mem_append_right _ (List.mem_append_right _ (List.mem_append_right _ (List.mem_append_right _ (List.mem_append_left _ (List.mem_of_getElem? (i := 15) rfl))))))))))))))
theorem gm_496 : Cond.lays "java/lang/IndexOutOfBoundsException" "java/lang/Throwable" "detailMessage" "Ljava/lang/String;" ∈ GT := (List.mem_append_right _ (List.mem_append_right _ (List.mem_append_right _ (List.mem_append_right _ (List.mem_append_right _ (List.mem_append_right _ (List.mem_append_right _ (List.mem_append_right _ (List.mem_append_right _ (List.mem_append_right _ (List.mem_append_right _ (List.mem_append_right _ (List.mem_append_left _ (List.mem_of_getElem? (i := 16) rfl))))))))))))))
theorem gm_497 : Cond.lays "java/lang/IndexOutOfBoundsException" "java/lang/Throwable" "backtrace" "Ljava/lang/Object;" ∈ GT := (List.mem_append_right _ (List.mem_append_right _ (List.mem_append_right _ (List.mem_append_right _ (List.mem_append_right _ (List.mem_append_right _ (List.mem_append_right _ (List.mem_append_right _ (List.mem_append_right _ (List.mem_append_right _ (List.mem_append_right _ (List.mem_append_right _ (List.mem_append_left _ (List.mem_of_getElem? (i := 17) rfl))))))))))))))
theorem gm_498 : Cond.methodLink "DigestBox" 137 ⟨"java/lang/IndexOutOfBoundsException", "<init>", "()V"⟩ ∈ GT := (List.mem_append_right _ (List.mem_append_right _ (List.mem_append_right _ (List.mem_append_right _ (List.mem_append_right _ (List.mem_append_right _ (List.mem_append_right _ (List.mem_append_right _ (List.mem_append_right _ (List.mem_append_right _ (List.mem_append_right _ (List.mem_append_right _ (List.mem_append_left _ (List.mem_of_getElem? (i := 18) rfl))))))))))))))
theorem gm_499 : Cond.instanceMethod ⟨"java/lang/IndexOutOfBoundsException", "<init>", "()V"⟩ ∈ GT := (List.mem_append_right _ (List.mem_append_right _ (List.mem_append_right _ (List.mem_append_right _ (List.mem_append_right _ (List.mem_append_right _ (List.mem_append_right _ (List.mem_append_right _ (List.mem_append_right _ (List.mem_append_right _ (List.mem_append_right _ (List.mem_append_right _ (List.mem_append_left _ (List.mem_of_getElem? (i := 19) rfl))))))))))))))
theorem gm_500 : Cond.code ⟨"java/lang/IndexOutOfBoundsException", "<init>", "()V"⟩ prog_15_method_1_code 1 none ∈ GT := (List.mem_append_right _ (List.mem_append_right _ (List.mem_append_right _ (List.mem_append_right _ (List.mem_append_right _ (List.mem_append_right _ (List.mem_append_right _ (List.mem_append_right _ (List.mem_append_right _ (List.mem_append_right _ (List.mem_append_right _ (List.mem_append_right _ (List.mem_append_left _ (List.mem_of_getElem? (i := 20) rfl))))))))))))))
theorem gm_501 : Cond.methodLink "java/lang/IndexOutOfBoundsException" 1 ⟨"java/lang/RuntimeException", "<init>", "()V"⟩ ∈ GT := (List.mem_append_right _ (List.mem_append_right _ (List.mem_append_right _ (List.mem_append_right _ (List.mem_append_right _ (List.mem_append_right _ (List.mem_append_right _ (List.mem_append_right _ (List.mem_append_right _ (List.mem_append_right _ (List.mem_append_right _ (List.mem_append_right _ (List.mem_append_left _ (List.mem_of_getElem? (i := 21) rfl))))))))))))))
theorem gm_502 : Cond.lays "java/lang/IndexOutOfBoundsException" "java/lang/Throwable" "depth" "I" ∈ GT := (List.mem_append_right _ (List.mem_append_right _ (List.mem_append_right _ (List.mem_append_right _ (List.mem_append_right _ (List.mem_append_right _ (List.mem_append_right _ (List.mem_append_right _ (List.mem_append_right _ (List.mem_append_right _ (List.mem_append_right _ (List.mem_append_right _ (List.mem_append_left _ (List.mem_of_getElem? (i := 22) rfl))))))))))))))
theorem gm_503 : Cond.classLink "DigestBoxLaw" 51 "DigestBoxModel" ∈ GT := (List.mem_append_right _ (List.mem_append_right _ (List.mem_append_right _ (List.mem_append_right _ (List.mem_append_right _ (List.mem_append_right _ (List.mem_append_right _ (List.mem_append_right _ (List.mem_append_right _ (List.mem_append_right _ (List.mem_append_right _ (List.mem_append_right _ (List.mem_append_left _ (List.mem_of_getElem? (i := 23) rfl))))))))))))))
theorem gm_504 : Cond.instantiable "DigestBoxModel" 21 ∈ GT := (List.mem_append_right _ (List.mem_append_right _ (List.mem_append_right _ (List.mem_append_right _ (List.mem_append_right _ (List.mem_append_right _ (List.mem_append_right _ (List.mem_append_right _ (List.mem_append_right _ (List.mem_append_right _ (List.mem_append_right _ (List.mem_append_right _ (List.mem_append_left _ (List.mem_of_getElem? (i := 24) rfl))))))))))))))
theorem gm_505 : Cond.methodLink "DigestBoxLaw" 53 ⟨"DigestBoxModel", "<init>", "()V"⟩ ∈ GT := (List.mem_append_right _ (List.mem_append_right _ (List.mem_append_right _ (List.mem_append_right _ (List.mem_append_right _ (List.mem_append_right _ (List.mem_append_right _ (List.mem_append_right _ (List.mem_append_right _ (List.mem_append_right _ (List.mem_append_right _ (List.mem_append_right _ (List.mem_append_left _ (List.mem_of_getElem? (i := 25) rfl))))))))))))))
theorem gm_506 : Cond.instanceMethod ⟨"DigestBoxModel", "<init>", "()V"⟩ ∈ GT := (List.mem_append_right _ (List.mem_append_right _ (List.mem_append_right _ (List.mem_append_right _ (List.mem_append_right _ (List.mem_append_right _ (List.mem_append_right _ (List.mem_append_right _ (List.mem_append_right _ (List.mem_append_right _ (List.mem_append_right _ (List.mem_append_right _ (List.mem_append_left _ (List.mem_of_getElem? (i := 26) rfl))))))))))))))
theorem gm_507 : Cond.code ⟨"DigestBoxModel", "<init>", "()V"⟩ prog_8_method_1_code 3 none ∈ GT := (List.mem_append_right _ (List.mem_append_right _ (List.mem_append_right _ (List.mem_append_right _ (List.mem_append_right _ (List.mem_append_right _ (List.mem_append_right _ (List.mem_append_right _ (List.mem_append_right _ (List.mem_append_right _ (List.mem_append_right _ (List.mem_append_right _ (List.mem_append_left _ (List.mem_of_getElem? (i := 27) rfl))))))))))))))
theorem gm_508 : Cond.methodLink "DigestBoxModel" 1 ⟨"java/lang/Object", "<init>", "()V"⟩ ∈ GT := (List.mem_append_right _ (List.mem_append_right _ (List.mem_append_right _ (List.mem_append_right _ (List.mem_append_right _ (List.mem_append_right _ (List.mem_append_right _ (List.mem_append_right _ (List.mem_append_right _ (List.mem_append_right _ (List.mem_append_right _ (List.mem_append_right _ (List.mem_append_left _ (List.mem_of_getElem? (i := 28) rfl))))))))))))))
theorem gm_509 : Cond.constant "DigestBoxModel" 7 65536 ∈ GT := (List.mem_append_right _ (List.mem_append_right _ (List.mem_append_right _ (List.mem_append_right _ (List.mem_append_right _ (List.mem_append_right _ (List.mem_append_right _ (List.mem_append_right _ (List.mem_append_right _ (List.mem_append_right _ (List.mem_append_right _ (List.mem_append_right _ (List.mem_append_left _ (List.mem_of_getElem? (i := 29) rfl))))))))))))))
theorem gm_510 : Cond.constant "DigestBoxModel" 20 245760 ∈ GT := (List.mem_append_right _ (List.mem_append_right _ (List.mem_append_right _ (List.mem_append_right _ (List.mem_append_right _ (List.mem_append_right _ (List.mem_append_right _ (List.mem_append_right _ (List.mem_append_right _ (List.mem_append_right _ (List.mem_append_right _ (List.mem_append_right _ (List.mem_append_left _ (List.mem_of_getElem? (i := 30) rfl))))))))))))))
theorem gm_511 : Cond.constant "DigestBoxModel" 31 65800 ∈ GT := (List.mem_append_right _ (List.mem_append_right _ (List.mem_append_right _ (List.mem_append_right _ (List.mem_append_right _ (List.mem_append_right _ (List.mem_append_right _ (List.mem_append_right _ (List.mem_append_right _ (List.mem_append_right _ (List.mem_append_right _ (List.mem_append_right _ (List.mem_append_left _ (List.mem_of_getElem? (i := 31) rfl))))))))))))))
theorem gm_512 : Cond.methodLink "DigestBoxModel" 63 ⟨"DigestBoxModel", "prime", "(I)I"⟩ ∈ GT := (List.mem_append_right _ (List.mem_append_right _ (List.mem_append_right _ (List.mem_append_right _ (List.mem_append_right _ (List.mem_append_right _ (List.mem_append_right _ (List.mem_append_right _ (List.mem_append_right _ (List.mem_append_right _ (List.mem_append_right _ (List.mem_append_right _ (List.mem_append_left _ (List.mem_of_getElem? (i := 32) rfl))))))))))))))
theorem gm_513 : Cond.static ⟨"DigestBoxModel", "prime", "(I)I"⟩ ∈ GT := (List.mem_append_right _ (List.mem_append_right _ (List.mem_append_right _ (List.mem_append_right _ (List.mem_append_right _ (List.mem_append_right _ (List.mem_append_right _ (List.mem_append_right _ (List.mem_append_right _ (List.mem_append_right _ (List.mem_append_right _ (List.mem_append_right _ (List.mem_append_left _ (List.mem_of_getElem? (i := 33) rfl))))))))))))))
theorem gm_514 : Cond.code ⟨"DigestBoxModel", "prime", "(I)I"⟩ prog_8_method_4_code 4 (some .int) ∈ GT := (List.mem_append_right _ (List.mem_append_right _ (List.mem_append_right _ (List.mem_append_right _ (List.mem_append_right _ (List.mem_append_right _ (List.mem_append_right _ (List.mem_append_right _ (List.mem_append_right _ (List.mem_append_right _ (List.mem_append_right _ (List.mem_append_right _ (List.mem_append_left _ (List.mem_of_getElem? (i := 34) rfl))))))))))))))
theorem gm_515 : Cond.methodLink "DigestBoxModel" 67 ⟨"DigestBoxModel", "root", "(II)J"⟩ ∈ GT := (List.mem_append_right _ (List.mem_append_right _ (List.mem_append_right _ (List.mem_append_right _ (List.mem_append_right _ (List.mem_append_right _ (List.mem_append_right _ (List.mem_append_right _ (List.mem_append_right _ (List.mem_append_right _ (List.mem_append_right _ (List.mem_append_right _ (List.mem_append_left _ (List.mem_of_getElem? (i := 35) rfl))))))))))))))
theorem gm_516 : Cond.instanceMethod ⟨"DigestBoxModel", "root", "(II)J"⟩ ∈ GT := (List.mem_append_right _ (List.mem_append_right _ (List.mem_append_right _ (List.mem_append_right _ (List.mem_append_right _ (List.mem_append_right _ (List.mem_append_right _ (List.mem_append_right _ (List.mem_append_right _ (List.mem_append_right _ (List.mem_append_right _ (List.mem_append_right _ (List.mem_append_left _ (List.mem_of_getElem? (i := 36) rfl))))))))))))))
theorem gm_517 : Cond.code ⟨"DigestBoxModel", "root", "(II)J"⟩ prog_8_method_5_code 12 (some .long) ∈ GT := (List.mem_append_right _ (List.mem_append_right _ (List.mem_append_right _ (List.mem_append_right _ (List.mem_append_right _ (List.mem_append_right _ (List.mem_append_right _ (List.mem_append_right _ (List.mem_append_right _ (List.mem_append_right _ (List.mem_append_right _ (List.mem_append_right _ (List.mem_append_left _ (List.mem_of_getElem? (i := 37) rfl))))))))))))))
theorem gm_518 : Cond.methodLink "DigestBoxModel" 75 ⟨"DigestBoxModel", "fits", "(JJII)Z"⟩ ∈ GT := (List.mem_append_right _ (List.mem_append_right _ (List.mem_append_right _ (List.mem_append_right _ (List.mem_append_right _ (List.mem_append_right _ (List.mem_append_right _ (List.mem_append_right _ (List.mem_append_right _ (List.mem_append_right _ (List.mem_append_right _ (List.mem_append_right _ (List.mem_append_left _ (List.mem_of_getElem? (i := 38) rfl))))))))))))))
theorem gm_519 : Cond.instanceMethod ⟨"DigestBoxModel", "fits", "(JJII)Z"⟩ ∈ GT := (List.mem_append_right _ (List.mem_append_right _ (List.mem_append_right _ (List.mem_append_right _ (List.mem_append_right _ (List.mem_append_right _ (List.mem_append_right _ (List.mem_append_right _ (List.mem_append_right _ (List.mem_append_right _ (List.mem_append_right _ (List.mem_append_right _ (List.mem_append_left _ (List.mem_of_getElem? (i := 39) rfl))))))))))))))
theorem gm_520 : Cond.code ⟨"DigestBoxModel", "fits", "(JJII)Z"⟩ prog_8_method_6_code 10 (some .boolean) ∈ GT := (List.mem_append_right _ (List.mem_append_right _ (List.mem_append_right _ (List.mem_append_right _ (List.mem_append_right _ (List.mem_append_right _ (List.mem_append_right _ (List.mem_append_right _ (List.mem_append_right _ (List.mem_append_right _ (List.mem_append_right _ (List.mem_append_right _ (List.mem_append_right _ (List.mem_append_left _ (List.mem_of_getElem? (i := 0) rfl)))))))))))))))
theorem gm_521 : Cond.methodLink "DigestBoxModel" 79 ⟨"DigestBoxModel", "times", "(JJ)V"⟩ ∈ GT := (List.mem_append_right _ (List.mem_append_right _ (List.mem_append_right _ (List.mem_append_right _ (List.mem_append_right _ (List.mem_append_right _ (List.mem_append_right _ (List.mem_append_right _ (List.mem_append_right _ (List.mem_append_right _ (List.mem_append_right _ (List.mem_append_right _ (List.mem_append_right _ (List.mem_append_left _ (List.mem_of_getElem? (i := 1) rfl)))))))))))))))
theorem gm_522 : Cond.instanceMethod ⟨"DigestBoxModel", "times", "(JJ)V"⟩ ∈ GT := (List.mem_append_right _ (List.mem_append_right _ (List.mem_append_right _ (List.mem_append_right _ (List.mem_append_right _ (List.mem_append_right _ (List.mem_append_right _ (List.mem_append_right _ (List.mem_append_right _ (List.mem_append_right _ (List.mem_append_right _ (List.mem_append_right _ (List.mem_append_right _ (List.mem_append_left _ (List.mem_of_getElem? (i := 2) rfl)))))))))))))))
theorem gm_523 : Cond.code ⟨"DigestBoxModel", "times", "(JJ)V"⟩ prog_8_method_7_code 13 none ∈ GT := (List.mem_append_right _ (List.mem_append_right _ (List.mem_append_right _ (List.mem_append_right _ (List.mem_append_right _ (List.mem_append_right _ (List.mem_append_right _ (List.mem_append_right _ (List.mem_append_right _ (List.mem_append_right _ (List.mem_append_right _ (List.mem_append_right _ (List.mem_append_right _ (List.mem_append_left _ (List.mem_of_getElem? (i := 3) rfl)))))))))))))))
theorem gm_524 : Cond.constantLong "DigestBoxModel" 83 4294967295 ∈ GT := (List.mem_append_right _ (List.mem_append_right _ (List.mem_append_right _ (List.mem_append_right _ (List.mem_append_right _ (List.mem_append_right _ (List.mem_append_right _ (List.mem_append_right _ (List.mem_append_right _ (List.mem_append_right _ (List.mem_append_right _ (List.mem_append_right _ (List.mem_append_right _ (List.mem_append_left _ (List.mem_of_getElem? (i := 4) rfl)))))))))))))))
theorem gm_525 : Cond.fieldLink "DigestBoxModel" 71 "DigestBoxModel" "thrown" "I" ∈ GT := (List.mem_append_right _ (List.mem_append_right _ (List.mem_append_right _ (List.mem_append_right _ (List.mem_append_right _ (List.mem_append_right _ (List.mem_append_right _ (List.mem_append_right _ (List.mem_append_right _ (List.mem_append_right _ (List.mem_append_right _ (List.mem_append_right _ (List.mem_append_right _ (List.mem_append_left _ (List.mem_of_getElem? (i := 5) rfl)))))))))))))))
theorem gm_526 : Cond.fieldLink "DigestBoxModel" 8 "DigestBoxModel" "tape" "[B" ∈ GT := (List.mem_append_right _ (List.mem_append_right _ (List.mem_append_right _ (List.mem_append_right _ (List.mem_append_right _ (List.mem_append_right _ (List.mem_append_right _ (List.mem_append_right _ (List.mem_append_right _ (List.mem_append_right _ (List.mem_append_right _ (List.mem_append_right _ (List.mem_append_right _ (List.mem_append_left _ (List.mem_of_getElem? (i := 6) rfl)))))))))))))))
theorem gm_527 : Cond.fieldLink "DigestBoxModel" 14 "DigestBoxModel" "key" "[B" ∈ GT := (List.mem_append_right _ (List.mem_append_right _ (List.mem_append_right _ (List.mem_append_right _ (List.mem_append_right _ (List.mem_append_right _ (List.mem_append_right _ (List.mem_append_right _ (List.mem_append_right _ (List.mem_append_right _ (List.mem_append_right _ (List.mem_append_right _ (List.mem_append_right _ (List.mem_append_left _ (List.mem_of_getElem? (i := 7) rfl)))))))))))))))
theorem gm_528 : Cond.fieldLink "DigestBoxModel" 17 "DigestBoxModel" "result" "[B" ∈ GT := (List.mem_append_right _ (List.mem_append_right _ (List.mem_append_right _ (List.mem_append_right _ (List.mem_append_right _ (List.mem_append_right _ (List.mem_append_right _ (List.mem_append_right _ (List.mem_append_right _ (List.mem_append_right _ (List.mem_append_right _ (List.mem_append_right _ (List.mem_append_right _ (List.mem_append_left _ (List.mem_of_getElem? (i := 8) rfl)))))))))))))))
theorem gm_529 : Cond.fieldLink "DigestBoxModel" 132 "DigestBoxModel" "tapes" "I" ∈ GT := (List.mem_append_right _ (List.mem_append_right _ (List.mem_append_right _ (List.mem_append_right _ (List.mem_append_right _ (List.mem_append_right _ (List.mem_append_right _ (List.mem_append_right _ (List.mem_append_right _ (List.mem_append_right _ (List.mem_append_right _ (List.mem_append_right _ (List.mem_append_right _ (List.mem_append_left _ (List.mem_of_getElem? (i := 9) rfl)))))))))))))))
theorem gm_530 : Cond.fieldLink "DigestBoxModel" 125 "DigestBoxModel" "keys" "I" ∈ GT := (List.mem_append_right _ (List.mem_append_right _ (List.mem_append_right _ (List.mem_append_right _ (List.mem_append_right _ (List.mem_append_right _ (List.mem_append_right _ (List.mem_append_right _ (List.mem_append_right _ (List.mem_append_right _ (List.mem_append_right _ (List.mem_append_right _ (List.mem_append_right _ (List.mem_append_left _ (List.mem_of_getElem? (i := 10) rfl)))))))))))))))
theorem gm_531 : Cond.fieldLink "DigestBoxModel" 144 "DigestBoxModel" "results" "I" ∈ GT := (List.mem_append_right _ (List.mem_append_right _ (List.mem_append_right _ (List.mem_append_right _ (List.mem_append_right _ (List.mem_append_right _ (List.mem_append_right _ (List.mem_append_right _ (List.mem_append_right _ (List.mem_append_right _ (List.mem_append_right _ (List.mem_append_right _ (List.mem_append_right _ (List.mem_append_left _ (List.mem_of_getElem? (i := 11) rfl)))))))))))))))
theorem gm_532 : Cond.fieldLink "DigestBoxModel" 21 "DigestBoxModel" "run" "[B" ∈ GT := (List.mem_append_right _ (List.mem_append_right _ (List.mem_append_right _ (List.mem_append_right _ (List.mem_append_right _ (List.mem_append_right _ (List.mem_append_right _ (List.mem_append_right _ (List.mem_append_right _ (List.mem_append_right _ (List.mem_append_right _ (List.mem_append_right _ (List.mem_append_right _ (List.mem_append_left _ (List.mem_of_getElem? (i := 12) rfl)))))))))))))))
theorem gm_533 : Cond.fieldLink "DigestBoxModel" 24 "DigestBoxModel" "runs" "[I" ∈ GT := (List.mem_append_right _ (List.mem_append_right _ (List.mem_append_right _ (List.mem_append_right _ (List.mem_append_right _ (List.mem_append_right _ (List.mem_append_right _ (List.mem_append_right _ (List.mem_append_right _ (List.mem_append_right _ (List.mem_append_right _ (List.mem_append_right _ (List.mem_append_right _ (List.mem_append_left _ (List.mem_of_getElem? (i := 13) rfl)))))))))))))))
theorem gm_534 : Cond.fieldLink "DigestBoxModel" 28 "DigestBoxModel" "blocks" "[I" ∈ GT := (List.mem_append_right _ (List.mem_append_right _ (List.mem_append_right _ (List.mem_append_right _ (List.mem_append_right _ (List.mem_append_right _ (List.mem_append_right _ (List.mem_append_right _ (List.mem_append_right _ (List.mem_append_right _ (List.mem_append_right _ (List.mem_append_right _ (List.mem_append_right _ (List.mem_append_left _ (List.mem_of_getElem? (i := 14) rfl)))))))))))))))
theorem gm_535 : Cond.fieldLink "DigestBoxModel" 32 "DigestBoxModel" "work" "[B" ∈ GT := (List.mem_append_right _ (List.mem_append_right _ (List.mem_append_right _ (List.mem_append_right _ (List.mem_append_right _ (List.mem_append_right _ (List.mem_append_right _ (List.mem_append_right _ (List.mem_append_right _ (List.mem_append_right _ (List.mem_append_right _ (List.mem_append_right _ (List.mem_append_right _ (List.mem_append_left _ (List.mem_of_getElem? (i := 15) rfl)))))))))))))))
theorem gm_536 : Cond.fieldLink "DigestBoxModel" 35 "DigestBoxModel" "out" "[B" ∈ GT := (List.mem_append_right _ (List.mem_append_right _ (List.mem_append_right _ (List.mem_append_right _ (List.mem_append_right _ (List.mem_append_right _ (List.mem_append_right _ (List.mem_append_right _ (List.mem_append_right _ (List.mem_append_right _ (List.mem_append_right _ (List.mem_append_right _ (List.mem_append_right _ (List.mem_append_left _ (List.mem_of_getElem? (i := 16) rfl)))))))))))))))
theorem gm_537 : Cond.fieldLink "DigestBoxModel" 38 "DigestBoxModel" "last" "[B" ∈ GT := (List.mem_append_right _ (List.mem_append_right _ (List.mem_append_right _ (List.mem_append_right _ (List.mem_append_right _ (List.mem_append_right _ (List.mem_append_right _ (List.mem_append_right _ (List.mem_append_right _ (List.mem_append_right _ (List.mem_append_right _ (List.mem_append_right _ (List.mem_append_right _ (List.mem_append_left _ (List.mem_of_getElem? (i := 17) rfl)))))))))))))))
theorem gm_538 : Cond.fieldLink "DigestBoxModel" 41 "DigestBoxModel" "pad" "[B" ∈ GT := (List.mem_append_right _ (List.mem_append_right _ (List.mem_append_right _ (List.mem_append_right _ (List.mem_append_right _ (List.mem_append_right _ (List.mem_append_right _ (List.mem_append_right _ (List.mem_append_right _ (List.mem_append_right _ (List.mem_append_right _ (List.mem_append_right _ (List.mem_append_right _ (List.mem_append_left _ (List.mem_of_getElem? (i := 18) rfl)))))))))))))))
theorem gm_539 : Cond.fieldLink "DigestBoxModel" 44 "DigestBoxModel" "roots" "[J" ∈ GT := (List.mem_append_right _ (List.mem_append_right _ (List.mem_append_right _ (List.mem_append_right _ (List.mem_append_right _ (List.mem_append_right _ (List.mem_append_right _ (List.mem_append_right _ (List.mem_append_right _ (List.mem_append_right _ (List.mem_append_right _ (List.mem_append_right _ (List.mem_append_right _ (List.mem_append_left _ (List.mem_of_getElem? (i := 19) rfl)))))))))))))))
theorem gm_540 : Cond.fieldLink "DigestBoxModel" 48 "DigestBoxModel" "starts" "[J" ∈ GT := (List.mem_append_right _ (List.mem_append_right _ (List.mem_append_right _ (List.mem_append_right _ (List.mem_append_right _ (List.mem_append_right _ (List.mem_append_right _ (List.mem_append_right _ (List.mem_append_right _ (List.mem_append_right _ (List.mem_append_right _ (List.mem_append_right _ (List.mem_append_right _ (List.mem_append_left _ (List.mem_of_getElem? (i := 20) rfl)))))))))))))))
theorem gm_541 : Cond.fieldLink "DigestBoxModel" 51 "DigestBoxModel" "words" "[J" ∈ GT := (List.mem_append_right _ (List.mem_append_right _ (List.mem_append_right _ (List.mem_append_right _ (List.mem_append_right _ (List.mem_append_right _ (List.mem_append_right _ (List.mem_append_right _ (List.mem_append_right _ (List.mem_append_right _ (List.mem_append_right _ (List.mem_append_right _ (List.mem_append_right _ (List.mem_append_left _ (List.mem_of_getElem? (i := 21) rfl)))))))))))))))
theorem gm_542 : Cond.fieldLink "DigestBoxModel" 54 "DigestBoxModel" "state" "[J" ∈ GT := (List.mem_append_right _ (List.mem_append_right _ (List.mem_append_right _ (List.mem_append_right _ (List.mem_append_right _ (List.mem_append_right _ (List.mem_append_right _ (List.mem_append_right _ (List.mem_append_right _ (List.mem_append_right _ (List.mem_append_right _ (List.mem_append_right _ (List.mem_append_right _ (List.mem_append_left _ (List.mem_of_getElem? (i := 22) rfl)))))))))))))))
theorem gm_543 : Cond.fieldLink "DigestBoxModel" 57 "DigestBoxModel" "left" "[J" ∈ GT := (List.mem_append_right _ (List.mem_append_right _ (List.mem_append_right _ (List.mem_append_right _ (List.mem_append_right _ (List.mem_append_right _ (List.mem_append_right _ (List.mem_append_right _ (List.mem_append_right _ (List.mem_append_right _ (List.mem_append_right _ (List.mem_append_right _ (List.mem_append_right _ (List.mem_append_left _ (List.mem_of_getElem? (i := 23) rfl)))))))))))))))
theorem gm_544 : Cond.fieldLink "DigestBoxModel" 60 "DigestBoxModel" "cube" "[J" ∈ GT := (List.mem_append_right _ (List.mem_append_right _ (List.mem_append_right _ (List.mem_append_right _ (List.mem_append_right _ (List.mem_append_right _ (List.mem_append_right _ (List.mem_append_right _ (List.mem_append_right _ (List.mem_append_right _ (List.mem_append_right _ (List.mem_append_right _ (List.mem_append_right _ (List.mem_append_left _ (List.mem_of_getElem? (i := 24) rfl)))))))))))))))
theorem gm_545 : Cond.fieldLink "DigestBoxModel" 88 "DigestBoxModel" "wide" "Z" ∈ GT := (List.mem_append_right _ (List.mem_append_right _ (List.mem_append_right _ (List.mem_append_right _ (List.mem_append_right _ (List.mem_append_right _ (List.mem_append_right _ (List.mem_append_right _ (List.mem_append_right _ (List.mem_append_right _ (List.mem_append_right _ (List.mem_append_right _ (List.mem_append_right _ (List.mem_append_left _ (List.mem_of_getElem? (i := 25) rfl)))))))))))))))
theorem gm_546 : Cond.lays "DigestBoxModel" "DigestBoxModel" "thrown" "I" ∈ GT := (List.mem_append_right _ (List.mem_append_right _ (List.mem_append_right _ (List.mem_append_right _ (List.mem_append_right _ (List.mem_append_right _ (List.mem_append_right _ (List.mem_append_right _ (List.mem_append_right _ (List.mem_append_right _ (List.mem_append_right _ (List.mem_append_right _ (List.mem_append_right _ (List.mem_append_left _ (List.mem_of_getElem? (i := 26) rfl)))))))))))))))
theorem gm_547 : Cond.laysFinal "DigestBoxModel" "DigestBoxModel" "tape" "[B" ∈ GT := (List.mem_append_right _ (List.mem_append_right _ (List.mem_append_right _ (List.mem_append_right _ (List.mem_append_right _ (List.mem_append_right _ (List.mem_append_right _ (List.mem_append_right _ (List.mem_append_right _ (List.mem_append_right _ (List.mem_append_right _ (List.mem_append_right _ (List.mem_append_right _ (List.mem_append_left _ (List.mem_of_getElem? (i := 27) rfl)))))))))))))))
theorem gm_548 : Cond.laysFinal "DigestBoxModel" "DigestBoxModel" "key" "[B" ∈ GT := (List.mem_append_right _ (List.mem_append_right _ (List.mem_append_right _ (List.mem_append_right _ (List.mem_append_right _ (List.mem_append_right _ (List.mem_append_right _ (List.mem_append_right _ (List.mem_append_right _ (List.mem_append_right _ (List.mem_append_right _ (List.mem_append_right _ (List.mem_append_right _ (List.mem_append_left _ (List.mem_of_getElem? (i := 28) rfl)))))))))))))))
theorem gm_549 : Cond.laysFinal "DigestBoxModel" "DigestBoxModel" "result" "[B" ∈ GT := (List.mem_append_right _ (List.mem_append_right _ (List.mem_append_right _ (List.mem_append_right _ (List.mem_append_right _ (List.mem_append_right _ (List.mem_append_right _ (List.mem_append_right _ (List.mem_append_right _ (List.mem_append_right _ (List.mem_append_right _ (List.mem_append_right _ (List.mem_append_right _ (List.mem_append_left _ (List.mem_of_getElem? (i := 29) rfl)))))))))))))))
theorem gm_550 : Cond.lays "DigestBoxModel" "DigestBoxModel" "tapes" "I" ∈ GT := (List.mem_append_right _ (List.mem_append_right _ (List.mem_append_right _ (List.mem_append_right _ (List.mem_append_right _ (List.mem_append_right _ (List.mem_append_right _ (List.mem_append_right _ (List.mem_append_right _ (List.mem_append_right _ (List.mem_append_right _ (List.mem_append_right _ (List.mem_append_right _ (List.mem_append_left _ (List.mem_of_getElem? (i := 30) rfl)))))))))))))))
theorem gm_551 : Cond.lays "DigestBoxModel" "DigestBoxModel" "keys" "I" ∈ GT := (List.mem_append_right _ (List.mem_append_right _ (List.mem_append_right _ (List.mem_append_right _ (List.mem_append_right _ (List.mem_append_right _ (List.mem_append_right _ (List.mem_append_right _ (List.mem_append_right _ (List.mem_append_right _ (List.mem_append_right _ (List.mem_append_right _ (List.mem_append_right _ (List.mem_append_left _ (List.mem_of_getElem? (i := 31) rfl)))))))))))))))
theorem gm_552 : Cond.lays "DigestBoxModel" "DigestBoxModel" "results" "I" ∈ GT := (List.mem_append_right _ (List.mem_append_right _ (List.mem_append_right _ (List.mem_append_right _ (List.mem_append_right _ (List.mem_append_right _ (List.mem_append_right _ (List.mem_append_right _ (List.mem_append_right _ (List.mem_append_right _ (List.mem_append_right _ (List.mem_append_right _ (List.mem_append_right _ (List.mem_append_left _ (List.mem_of_getElem? (i := 32) rfl)))))))))))))))
theorem gm_553 : Cond.laysFinal "DigestBoxModel" "DigestBoxModel" "run" "[B" ∈ GT := (List.mem_append_right _ (List.mem_append_right _ (List.mem_append_right _ (List.mem_append_right _ (List.mem_append_right _ (List.mem_append_right _ (List.mem_append_right _ (List.mem_append_right _ (List.mem_append_right _ (List.mem_append_right _ (List.mem_append_right _ (List.mem_append_right _ (List.mem_append_right _ (List.mem_append_left _ (List.mem_of_getElem? (i := 33) rfl)))))))))))))))
theorem gm_554 : Cond.laysFinal "DigestBoxModel" "DigestBoxModel" "runs" "[I" ∈ GT := (List.mem_append_right _ (List.mem_append_right _ (List.mem_append_right _ (List.mem_append_right _ (List.mem_append_right _ (List.mem_append_right _ (List.mem_append_right _ (List.mem_append_right _ (List.mem_append_right _ (List.mem_append_right _ (List.mem_append_right _ (List.mem_append_right _ (List.mem_append_right _ (List.mem_append_left _ (List.mem_of_getElem? (i := 34) rfl)))))))))))))))
theorem gm_555 : Cond.laysFinal "DigestBoxModel" "DigestBoxModel" "blocks" "[I" ∈ GT := (List.mem_append_right _ (List.mem_append_right _ (List.mem_append_right _ (List.mem_append_right _ (List.mem_append_right _ (List.mem_append_right _ (List.mem_append_right _ (List.mem_append_right _ (List.mem_append_right _ (List.mem_append_right _ (List.mem_append_right _ (List.mem_append_right _ (List.mem_append_right _ (List.mem_append_left _ (List.mem_of_getElem? (i := 35) rfl)))))))))))))))
theorem gm_556 : Cond.laysFinal "DigestBoxModel" "DigestBoxModel" "work" "[B" ∈ GT := (List.mem_append_right _ (List.mem_append_right _ (List.mem_append_right _ (List.mem_append_right _ (List.mem_append_right _ (List.mem_append_right _ (List.mem_append_right _ (List.mem_append_right _ (List.mem_append_right _ (List.mem_append_right _ (List.mem_append_right _ (List.mem_append_right _ (List.mem_append_right _ (List.mem_append_left _ (List.mem_of_getElem? (i := 36) rfl)))))))))))))))
theorem gm_557 : Cond.laysFinal "DigestBoxModel" "DigestBoxModel" "out" "[B" ∈ GT := (List.mem_append_right _ (List.mem_append_right _ (List.mem_append_right _ (List.mem_append_right _ (List.mem_append_right _ (List.mem_append_right _ (List.mem_append_right _ (List.mem_append_right _ (List.mem_append_right _ (List.mem_append_right _ (List.mem_append_right _ (List.mem_append_right _ (List.mem_append_right _ (List.mem_append_left _ (List.mem_of_getElem? (i := 37) rfl)))))))))))))))
theorem gm_558 : Cond.laysFinal "DigestBoxModel" "DigestBoxModel" "last" "[B" ∈ GT := (List.mem_append_right _ (List.mem_append_right _ (List.mem_append_right _ (List.mem_append_right _ (List.mem_append_right _ (List.mem_append_right _ (List.mem_append_right _ (List.mem_append_right _ (List.mem_append_right _ (List.mem_append_right _ (List.mem_append_right _ (List.mem_append_right _ (List.mem_append_right _ (List.mem_append_left _ (List.mem_of_getElem? (i := 38) rfl)))))))))))))))
theorem gm_559 : Cond.laysFinal "DigestBoxModel" "DigestBoxModel" "pad" "[B" ∈ GT := (List.mem_append_right _ (List.mem_append_right _ (List.mem_append_right _ (List.mem_append_right _ (List.mem_append_right _ (List.mem_append_right _ (List.mem_append_right _ (List.mem_append_right _ (List.mem_append_right _ (List.mem_append_right _ (List.mem_append_right _ (List.mem_append_right _ (List.mem_append_right _ (List.mem_append_left _ (List.mem_of_getElem? (i := 39) rfl)))))))))))))))
theorem gm_560 : Cond.laysFinal "DigestBoxModel" "DigestBoxModel" "roots" "[J" ∈ GT := (List.mem_append_right _ (List.mem_append_right _ (List.mem_append_right _ (List.mem_append_right _ (List.mem_append_right _ (List.mem_append_right _ (List.mem_append_right _ (List.mem_append_right _ (List.mem_append_right _ (List.mem_append_right _ (List.mem_append_right _ (List.mem_append_right _ (List.mem_append_right _ (List.mem_append_right _ (List.mem_append_left _ (List.mem_of_getElem? (i := 0) rfl))))))))))))))))
theorem gm_561 : Cond.laysFinal "DigestBoxModel" "DigestBoxModel" "starts" "[J" ∈ GT := (List.mem_append_right _ (List.mem_append_right _ (List.mem_append_right _ (List.mem_append_right _ (List.mem_append_right _ (List.mem_append_right _ (List.mem_append_right _ (List.mem_append_right _ (List.mem_append_right _ (List.mem_append_right _ (List.mem_append_right _ (List.mem_append_right _ (List.mem_append_right _ (List.mem_append_right _ (List.mem_append_left _ (List.mem_of_getElem? (i := 1) rfl))))))))))))))))
theorem gm_562 : Cond.laysFinal "DigestBoxModel" "DigestBoxModel" "words" "[J" ∈ GT := (List.mem_append_right _ (List.mem_append_right _ (List.mem_append_right _ (List.mem_append_right _ (List.mem_append_right _ (List.mem_append_right _ (List.mem_append_right _ (List.mem_append_right _ (List.mem_append_right _ (List.mem_append_right _ (List.mem_append_right _ (List.mem_append_right _ (List.mem_append_right _ (List.mem_append_right _ (List.mem_append_left _ (List.mem_of_getElem? (i := 2) rfl))))))))))))))))
theorem gm_563 : Cond.laysFinal "DigestBoxModel" "DigestBoxModel" "state" "[J" ∈ GT := (List.mem_append_right _ (List.mem_append_right _ (List.mem_append_right _ (List.mem_append_right _ (List.mem_append_right _ (List.mem_append_right _ (List.mem_append_right _ (List.mem_append_right _ (List.mem_append_right _ (List.mem_append_right _ (List.mem_append_right _ (List.mem_append_right _ (List.mem_append_right _ (List.mem_append_right _ (List.mem_append_left _ (List.mem_of_getElem? (i := 3) rfl))))))))))))))))
theorem gm_564 : Cond.laysFinal "DigestBoxModel" "DigestBoxModel" "left" "[J" ∈ GT := (List.mem_append_right _ (List.mem_append_right _ (List.mem_append_right _ (List.mem_append_right _ (List.mem_append_right _ (List.mem_append_right _ (List.mem_append_right _ (List.mem_append_right _ (List.mem_append_right _ (List.mem_append_right _ (List.mem_append_right _ (List.mem_append_right _ (List.mem_append_right _ (List.mem_append_right _ (List.mem_append_left _ (List.mem_of_getElem? (i := 4) rfl))))))))))))))))
theorem gm_565 : Cond.laysFinal "DigestBoxModel" "DigestBoxModel" "cube" "[J" ∈ GT := (List.mem_append_right _ (List.mem_append_right _ (List.mem_append_right _ (List.mem_append_right _ (List.mem_append_right _ (List.mem_append_right _ (List.mem_append_right _ (List.mem_append_right _ (List.mem_append_right _ (List.mem_append_right _ (List.mem_append_right _ (List.mem_append_right _ (List.mem_append_right _ (List.mem_append_right _ (List.mem_append_left _ (List.mem_of_getElem? (i := 5) rfl))))))))))))))))
theorem gm_566 : Cond.lays "DigestBoxModel" "DigestBoxModel" "wide" "Z" ∈ GT := (List.mem_append_right _ (List.mem_append_right _ (List.mem_append_right _ (List.mem_append_right _ (List.mem_append_right _ (List.mem_append_right _ (List.mem_append_right _ (List.mem_append_right _ (List.mem_append_right _ (List.mem_append_right _ (List.mem_append_right _ (List.mem_append_right _ (List.mem_append_right _ (List.mem_append_right _ (List.mem_append_left _ (List.mem_of_getElem? (i := 6) rfl))))))))))))))))
theorem gm_567 : Cond.methodLink "DigestBoxLaw" 60 ⟨"DigestBoxModel", "thrown", "()I"⟩ ∈ GT := (List.mem_append_right _ (List.mem_append_right _ (List.mem_append_right _ (List.mem_append_right _ (List.mem_append_right _ (List.mem_append_right _ (List.mem_append_right _ (List.mem_append_right _ (List.mem_append_right _ (List.mem_append_right _ (List.mem_append_right _ (List.mem_append_right _ (List.mem_append_right _ (List.mem_append_right _ (List.mem_append_left _ (List.mem_of_getElem? (i := 7) rfl))))))))))))))))
theorem gm_568 : Cond.instanceMethod ⟨"DigestBoxModel", "thrown", "()I"⟩ ∈ GT := (List.mem_append_right _ (List.mem_append_right _ (List.mem_append_right _ (List.mem_append_right _ (List.mem_append_right _ (List.mem_append_right _ (List.mem_append_right _ (List.mem_append_right _ (List.mem_append_right _ (List.mem_append_right _ (List.mem_append_right _ (List.mem_append_right _ (List.mem_append_right _ (List.mem_append_right _ (List.mem_append_left _ (List.mem_of_getElem? (i := 8) rfl))))))))))))))))
theorem gm_569 : Cond.selects "DigestBoxModel" ⟨"DigestBoxModel", "thrown", "()I"⟩ ⟨"DigestBoxModel", "thrown", "()I"⟩ ∈ GT := (List.mem_append_right _ (List.mem_append_right _ (List.mem_append_right _ (List.mem_append_right _ (List.mem_append_right _ (List.mem_append_right _ (List.mem_append_right _ (List.mem_append_right _ (List.mem_append_right _ (List.mem_append_right _ (List.mem_append_right _ (List.mem_append_right _ (List.mem_append_right _ (List.mem_append_right _ (List.mem_append_left _ (List.mem_of_getElem? (i := 9) rfl))))))))))))))))
theorem gm_570 : Cond.code ⟨"DigestBoxModel", "thrown", "()I"⟩ prog_8_method_2_code 1 (some .int) ∈ GT := (List.mem_append_right _ (List.mem_append_right _ (List.mem_append_right _ (List.mem_append_right _ (List.mem_append_right _ (List.mem_append_right _ (List.mem_append_right _ (List.mem_append_right _ (List.mem_append_right _ (List.mem_append_right _ (List.mem_append_right _ (List.mem_append_right _ (List.mem_append_right _ (List.mem_append_right _ (List.mem_append_left _ (List.mem_of_getElem? (i := 10) rfl))))))))))))))))
theorem gm_571 : Cond.methodLink "DigestBoxLaw" 59 ⟨"DigestBoxModel", "feed", "(IIIII)I"⟩ ∈ GT := (List.mem_append_right _ (List.mem_append_right _ (List.mem_append_right _ (List.mem_append_right _ (List.mem_append_right _ (List.mem_append_right _ (List.mem_append_right _ (List.mem_append_right _ (List.mem_append_right _ (List.mem_append_right _ (List.mem_append_right _ (List.mem_append_right _ (List.mem_append_right _ (List.mem_append_right _ (List.mem_append_left _ (List.mem_of_getElem? (i := 11) rfl))))))))))))))))
theorem gm_572 : Cond.instanceMethod ⟨"DigestBoxModel", "feed", "(IIIII)I"⟩ ∈ GT := (List.mem_append_right _ (List.mem_append_right _ (List.mem_append_right _ (List.mem_append_right _ (List.mem_append_right _ (List.mem_append_right _ (List.mem_append_right _ (List.mem_append_right _ (List.mem_append_right _ (List.mem_append_right _ (List.mem_append_right _ (List.mem_append_right _ (List.mem_append_right _ (List.mem_append_right _ (List.mem_append_left _ (List.mem_of_getElem? (i := 12) rfl))))))))))))))))
theorem gm_573 : Cond.selects "DigestBoxModel" ⟨"DigestBoxModel", "feed", "(IIIII)I"⟩ ⟨"DigestBoxModel", "feed", "(IIIII)I"⟩ ∈ GT := (List.mem_append_right _ (List.mem_append_right _ (List.mem_append_right _ (List.mem_append_right _ (List.mem_append_right _ (List.mem_append_right _ (List.mem_append_right _ (List.mem_append_right _ (List.mem_append_right _ (List.mem_append_right _ (List.mem_append_right _ (List.mem_append_right _ (List.mem_append_right _ (List.mem_append_right _ (List.mem_append_left _ (List.mem_of_getElem? (i := 13) rfl))))))))))))))))
theorem gm_574 : Cond.code ⟨"DigestBoxModel", "feed", "(IIIII)I"⟩ prog_8_method_20_code 8 (some .int) ∈ GT := (List.mem_append_right _ (List.mem_append_right _ (List.mem_append_right _ (List.mem_append_right _ (List.mem_append_right _ (List.mem_append_right _ (List.mem_append_right _ (List.mem_append_right _ (List.mem_append_right _ (List.mem_append_right _ (List.mem_append_right _ (List.mem_append_right _ (List.mem_append_right _ (List.mem_append_right _ (List.mem_append_left _ (List.mem_of_getElem? (i := 14) rfl))))))))))))))))
theorem gm_575 : Cond.constant "DigestBoxModel" 135 65516 ∈ GT := (List.mem_append_right _ (List.mem_append_right _ (List.mem_append_right _ (List.mem_append_right _ (List.mem_append_right _ (List.mem_append_right _ (List.mem_append_right _ (List.mem_append_right _ (List.mem_append_right _ (List.mem_append_right _ (List.mem_append_right _ (List.mem_append_right _ (List.mem_append_right _ (List.mem_append_right _ (List.mem_append_left _ (List.mem_of_getElem? (i := 15) rfl))))))))))))))))
theorem gm_576 : Cond.methodLink "DigestBoxModel" 136 ⟨"DigestBoxModel", "fail", "(I)I"⟩ ∈ GT := (List.mem_append_right _ (List.mem_append_right _ (List.mem_append_right _ (List.mem_append_right _ (List.mem_append_right _ (List.mem_append_right _ (List.mem_append_right _ (List.mem_append_right _ (List.mem_append_right _ (List.mem_append_right _ (List.mem_append_right _ (List.mem_append_right _ (List.mem_append_right _ (List.mem_append_right _ (List.mem_append_left _ (List.mem_of_getElem? (i := 16) rfl))))))))))))))))
theorem gm_577 : Cond.instanceMethod ⟨"DigestBoxModel", "fail", "(I)I"⟩ ∈ GT := (List.mem_append_right _ (List.mem_append_right _ (List.mem_append_right _ (List.mem_append_right _ (List.mem_append_right _ (List.mem_append_right _ (List.mem_append_right _ (List.mem_append_right _ (List.mem_append_right _ (List.mem_append_right _ (List.mem_append_right _ (List.mem_append_right _ (List.mem_append_right _ (List.mem_append_right _ (List.mem_append_left _ (List.mem_of_getElem? (i := 17) rfl))))))))))))))))
theorem gm_578 : Cond.code ⟨"DigestBoxModel", "fail", "(I)I"⟩ prog_8_method_3_code 2 (some .int) ∈ GT := (List.mem_append_right _ (List.mem_append_right _ (List.mem_append_right _ (List.mem_append_right _ (List.mem_append_right _ (List.mem_append_right _ (List.mem_append_right _ (List.mem_append_right _ (List.mem_append_right _ (List.mem_append_right _ (List.mem_append_right _ (List.mem_append_right _ (List.mem_append_right _ (List.mem_append_right _ (List.mem_append_left _ (List.mem_of_getElem? (i := 18) rfl))))))))))))))))
theorem gm_579 : Cond.methodLink "DigestBoxLaw" 67 ⟨"DigestBoxModel", "end", "(I)I"⟩ ∈ GT := (List.mem_append_right _ (List.mem_append_right _ (List.mem_append_right _ (List.mem_append_right _ (List.mem_append_right _ (List.mem_append_right _ (List.mem_append_right _ (List.mem_append_right _ (List.mem_append_right _ (List.mem_append_right _ (List.mem_append_right _ (List.mem_append_right _ (List.mem_append_right _ (List.mem_append_right _ (List.mem_append_left _ (List.mem_of_getElem? (i := 19) rfl))))))))))))))))
theorem gm_580 : Cond.instanceMethod ⟨"DigestBoxModel", "end", "(I)I"⟩ ∈ GT := (List.mem_append_right _ (List.mem_append_right _ (List.mem_append_right _ (List.mem_append_right _ (List.mem_append_right _ (List.mem_append_right _ (List.mem_append_right _ (List.mem_append_right _ (List.mem_append_right _ (List.mem_append_right _ (List.mem_append_right _ (List.mem_append_right _ (List.mem_append_right _ (List.mem_append_right _ (List.mem_append_left _ (List.mem_of_getElem? (i := 20) rfl))))))))))))))))
theorem gm_581 : Cond.selects "DigestBoxModel" ⟨"DigestBoxModel", "end", "(I)I"⟩ ⟨"DigestBoxModel", "end", "(I)I"⟩ ∈ GT := (List.mem_append_right _ (List.mem_append_right _ (List.mem_append_right _ (List.mem_append_right _ (List.mem_append_right _ (List.mem_append_right _ (List.mem_append_right _ (List.mem_append_right _ (List.mem_append_right _ (List.mem_append_right _ (List.mem_append_right _ (List.mem_append_right _ (List.mem_append_right _ (List.mem_append_right _ (List.mem_append_left _ (List.mem_of_getElem? (i := 21) rfl))))))))))))))))
theorem gm_582 : Cond.code ⟨"DigestBoxModel", "end", "(I)I"⟩ prog_8_method_21_code 2 (some .int) ∈ GT := (List.mem_append_right _ (List.mem_append_right _ (List.mem_append_right _ (List.mem_append_right _ (List.mem_append_right _ (List.mem_append_right _ (List.mem_append_right _ (List.mem_append_right _ (List.mem_append_right _ (List.mem_append_right _ (List.mem_append_right _ (List.mem_append_right _ (List.mem_append_right _ (List.mem_append_right _ (List.mem_append_left _ (List.mem_of_getElem? (i := 22) rfl))))))))))))))))
theorem gm_583 : Cond.methodLink "DigestBoxLaw" 71 ⟨"DigestBoxModel", "restart", "(I)V"⟩ ∈ GT := (List.mem_append_right _ (List.mem_append_right _ (List.mem_append_right _ (List.mem_append_right _ (List.mem_append_right _ (List.mem_append_right _ (List.mem_append_right _ (List.mem_append_right _ (List.mem_append_right _ (List.mem_append_right _ (List.mem_append_right _ (List.mem_append_right _ (List.mem_append_right _ (List.mem_append_right _ (List.mem_append_left _ (List.mem_of_getElem? (i := 23) rfl))))))))))))))))
theorem gm_584 : Cond.instanceMethod ⟨"DigestBoxModel", "restart", "(I)V"⟩ ∈ GT := (List.mem_append_right _ (List.mem_append_right _ (List.mem_append_right _ (List.mem_append_right _ (List.mem_append_right _ (List.mem_append_right _ (List.mem_append_right _ (List.mem_append_right _ (List.mem_append_right _ (List.mem_append_right _ (List.mem_append_right _ (List.mem_append_right _ (List.mem_append_right _ (List.mem_append_right _ (List.mem_append_left _ (List.mem_of_getElem? (i := 24) rfl))))))))))))))))
theorem gm_585 : Cond.selects "DigestBoxModel" ⟨"DigestBoxModel", "restart", "(I)V"⟩ ⟨"DigestBoxModel", "restart", "(I)V"⟩ ∈ GT := (List.mem_append_right _ (List.mem_append_right _ (List.mem_append_right _ (List.mem_append_right _ (List.mem_append_right _ (List.mem_append_right _ (List.mem_append_right _ (List.mem_append_right _ (List.mem_append_right _ (List.mem_append_right _ (List.mem_append_right _ (List.mem_append_right _ (List.mem_append_right _ (List.mem_append_right _ (List.mem_append_left _ (List.mem_of_getElem? (i := 25) rfl))))))))))))))))
theorem gm_586 : Cond.code ⟨"DigestBoxModel", "restart", "(I)V"⟩ prog_8_method_23_code 2 none ∈ GT := (List.mem_append_right _ (List.mem_append_right _ (List.mem_append_right _ (List.mem_append_right _ (List.mem_append_right _ (List.mem_append_right _ (List.mem_append_right _ (List.mem_append_right _ (List.mem_append_right _ (List.mem_append_right _ (List.mem_append_right _ (List.mem_append_right _ (List.mem_append_right _ (List.mem_append_right _ (List.mem_append_left _ (List.mem_of_getElem? (i := 26) rfl))))))))))))))))
theorem gm_587 : Cond.methodLink "DigestBoxModel" 139 ⟨"DigestBoxModel", "strange", "(I)Z"⟩ ∈ GT := (List.mem_append_right _ (List.mem_append_right _ (List.mem_append_right _ (List.mem_append_right _ (List.mem_append_right _ (List.mem_append_right _ (List.mem_append_right _ (List.mem_append_right _ (List.mem_append_right _ (List.mem_append_right _ (List.mem_append_right _ (List.mem_append_right _ (List.mem_append_right _ (List.mem_append_right _ (List.mem_append_left _ (List.mem_of_getElem? (i := 27) rfl))))))))))))))))
theorem gm_588 : Cond.static ⟨"DigestBoxModel", "strange", "(I)Z"⟩ ∈ GT := (List.mem_append_right _ (List.mem_append_right _ (List.mem_append_right _ (List.mem_append_right _ (List.mem_append_right _ (List.mem_append_right _ (List.mem_append_right _ (List.mem_append_right _ (List.mem_append_right _ (List.mem_append_right _ (List.mem_append_right _ (List.mem_append_right _ (List.mem_append_right _ (List.mem_append_right _ (List.mem_append_left _ (List.mem_of_getElem? (i := 28) rfl))))))))))))))))
theorem gm_589 : Cond.code ⟨"DigestBoxModel", "strange", "(I)Z"⟩ prog_8_method_22_code 1 (some .boolean) ∈ GT := (List.mem_append_right _ (List.mem_append_right _ (List.mem_append_right _ (List.mem_append_right _ (List.mem_append_right _ (List.mem_append_right _ (List.mem_append_right _ (List.mem_append_right _ (List.mem_append_right _ (List.mem_append_right _ (List.mem_append_right _ (List.mem_append_right _ (List.mem_append_right _ (List.mem_append_right _ (List.mem_append_left _ (List.mem_of_getElem? (i := 29) rfl))))))))))))))))
theorem gm_590 : Cond.methodLink "DigestBoxLaw" 74 ⟨"DigestBoxModel", "more", "(I)J"⟩ ∈ GT := (List.mem_append_right _ (List.mem_append_right _ (List.mem_append_right _ (List.mem_append_right _ (List.mem_append_right _ (List.mem_append_right _ (List.mem_append_right _ (List.mem_append_right _ (List.mem_append_right _ (List.mem_append_right _ (List.mem_append_right _ (List.mem_append_right _ (List.mem_append_right _ (List.mem_append_right _ (List.mem_append_left _ (List.mem_of_getElem? (i := 30) rfl))))))))))))))))
theorem gm_591 : Cond.instanceMethod ⟨"DigestBoxModel", "more", "(I)J"⟩ ∈ GT := (List.mem_append_right _ (List.mem_append_right _ (List.mem_append_right _ (List.mem_append_right _ (List.mem_append_right _ (List.mem_append_right _ (List.mem_append_right _ (List.mem_append_right _ (List.mem_append_right _ (List.mem_append_right _ (List.mem_append_right _ (List.mem_append_right _ (List.mem_append_right _ (List.mem_append_right _ (List.mem_append_left _ (List.mem_of_getElem? (i := 31) rfl))))))))))))))))
theorem gm_592 : Cond.selects "DigestBoxModel" ⟨"DigestBoxModel", "more", "(I)J"⟩ ⟨"DigestBoxModel", "more", "(I)J"⟩ ∈ GT := (List.mem_append_right _ (List.mem_append_right _ (List.mem_append_right _ (List.mem_append_right _ (List.mem_append_right _ (List.mem_append_right _ (List.mem_append_right _ (List.mem_append_right _ (List.mem_append_right _ (List.mem_append_right _ (List.mem_append_right _ (List.mem_append_right _ (List.mem_append_right _ (List.mem_append_right _ (List.mem_append_left _ (List.mem_of_getElem? (i := 32) rfl))))))))))))))))
theorem gm_593 : Cond.code ⟨"DigestBoxModel", "more", "(I)J"⟩ prog_8_method_24_code 4 (some .long) ∈ GT := (List.mem_append_right _ (List.mem_append_right _ (List.mem_append_right _ (List.mem_append_right _ (List.mem_append_right _ (List.mem_append_right _ (List.mem_append_right _ (List.mem_append_right _ (List.mem_append_right _ (List.mem_append_right _ (List.mem_append_right _ (List.mem_append_right _ (List.mem_append_right _ (List.mem_append_right _ (List.mem_append_left _ (List.mem_of_getElem? (i := 33) rfl))))))))))))))))
theorem gm_594 : Cond.methodLink "DigestBoxModel" 85 ⟨"DigestBoxModel", "block", "(I)I"⟩ ∈ GT := (List.mem_append_right _ (List.mem_append_right _ (List.mem_append_right _ (List.mem_append_right _ (List.mem_append_right _ (List.mem_append_right _ (List.mem_append_right _ (List.mem_append_right _ (List.mem_append_right _ (List.mem_append_right _ (List.mem_append_right _ (List.mem_append_right _ (List.mem_append_right _ (List.mem_append_right _ (List.mem_append_left _ (List.mem_of_getElem? (i := 34) rfl))))))))))))))))
theorem gm_595 : Cond.static ⟨"DigestBoxModel", "block", "(I)I"⟩ ∈ GT := (List.mem_append_right _ (List.mem_append_right _ (List.mem_append_right _ (List.mem_append_right _ (List.mem_append_right _ (List.mem_append_right _ (List.mem_append_right _ (List.mem_append_right _ (List.mem_append_right _ (List.mem_append_right _ (List.mem_append_right _ (List.mem_append_right _ (List.mem_append_right _ (List.mem_append_right _ (List.mem_append_left _ (List.mem_of_getElem? (i := 35) rfl))))))))))))))))
theorem gm_596 : Cond.code ⟨"DigestBoxModel", "block", "(I)I"⟩ prog_8_method_9_code 1 (some .int) ∈ GT := (List.mem_append_right _ (List.mem_append_right _ (List.mem_append_right _ (List.mem_append_right _ (List.mem_append_right _ (List.mem_append_right _ (List.mem_append_right _ (List.mem_append_right _ (List.mem_append_right _ (List.mem_append_right _ (List.mem_append_right _ (List.mem_append_right _ (List.mem_append_right _ (List.mem_append_right _ (List.mem_append_left _ (List.mem_of_getElem? (i := 36) rfl))))))))))))))))
theorem gm_597 : Cond.constant "DigestBoxModel" 143 81920 ∈ GT := (List.mem_append_right _ (List.mem_append_right _ (List.mem_append_right _ (List.mem_append_right _ (List.mem_append_right _ (List.mem_append_right _ (List.mem_append_right _ (List.mem_append_right _ (List.mem_append_right _ (List.mem_append_right _ (List.mem_append_right _ (List.mem_append_right _ (List.mem_append_right _ (List.mem_append_right _ (List.mem_append_left _ (List.mem_of_getElem? (i := 37) rfl))))))))))))))))
theorem gm_598 : Cond.methodLink "DigestBoxLaw" 77 ⟨"DigestBoxModel", "peek", "(I)I"⟩ ∈ GT := (List.mem_append_right _ (List.mem_append_right _ (List.mem_append_right _ (List.mem_append_right _ (List.mem_append_right _ (List.mem_append_right _ (List.mem_append_right _ (List.mem_append_right _ (List.mem_append_right _ (List.mem_append_right _ (List.mem_append_right _ (List.mem_append_right _ (List.mem_append_right _ (List.mem_append_right _ (List.mem_append_left _ (List.mem_of_getElem? (i := 38) rfl))))))))))))))))
theorem gm_599 : Cond.instanceMethod ⟨"DigestBoxModel", "peek", "(I)I"⟩ ∈ GT := (List.mem_append_right _ (List.mem_append_right _ (List.mem_append_right _ (List.mem_append_right _ (List.mem_append_right _ (List.mem_append_right _ (List.mem_append_right _ (List.mem_append_right _ (List.mem_append_right _ (List.mem_append_right _ (List.mem_append_right _ (List.mem_append_right _ (List.mem_append_right _ (List.mem_append_right _ (List.mem_append_left _ (List.mem_of_getElem? (i := 39) rfl))))))))))))))))
theorem gm_600 : Cond.selects "DigestBoxModel" ⟨"DigestBoxModel", "peek", "(I)I"⟩ ⟨"DigestBoxModel", "peek", "(I)I"⟩ ∈ GT := (List.mem_append_right _ (List.mem_append_right _ (List.mem_append_right _ (List.mem_append_right _ (List.mem_append_right _ (List.mem_append_right _ (List.mem_append_right _ (List.mem_append_right _ (List.mem_append_right _ (List.mem_append_right _ (List.mem_append_right _ (List.mem_append_right _ (List.mem_append_right _ (List.mem_append_right _ (List.mem_append_right _ (List.mem_append_left _ (List.mem_of_getElem? (i := 0) rfl)))))))))))))))))
theorem gm_601 : Cond.code ⟨"DigestBoxModel", "peek", "(I)I"⟩ prog_8_method_25_code 3 (some .int) ∈ GT := (List.mem_append_right _ (List.mem_append_right _ (List.mem_append_right _ (List.mem_append_right _ (List.mem_append_right _ (List.mem_append_right _ (List.mem_append_right _ (List.mem_append_right _ (List.mem_append_right _ (List.mem_append_right _ (List.mem_append_right _ (List.mem_append_right _ (List.mem_append_right _ (List.mem_append_right _ (List.mem_append_right _ (List.mem_append_left _ (List.mem_of_getElem? (i := 1) rfl)))))))))))))))))
theorem gm_602 : Cond.methodLink "DigestBoxModel" 128 ⟨"DigestBoxModel", "hash", "(I[BII)V"⟩ ∈ GT := (List.mem_append_right _ (List.mem_append_right _ (List.mem_append_right _ (List.mem_append_right _ (List.mem_append_right _ (List.mem_append_right _ (List.mem_append_right _ (List.mem_append_right _ (List.mem_append_right _ (List.mem_append_right _ (List.mem_append_right _ (List.mem_append_right _ (List.mem_append_right _ (List.mem_append_right _ (List.mem_append_right _ (List.mem_append_left _ (List.mem_of_getElem? (i := 2) rfl)))))))))))))))))
theorem gm_603 : Cond.instanceMethod ⟨"DigestBoxModel", "hash", "(I[BII)V"⟩ ∈ GT := (List.mem_append_right _ (List.mem_append_right _ (List.mem_append_right _ (List.mem_append_right _ (List.mem_append_right _ (List.mem_append_right _ (List.mem_append_right _ (List.mem_append_right _ (List.mem_append_right _ (List.mem_append_right _ (List.mem_append_right _ (List.mem_append_right _ (List.mem_append_right _ (List.mem_append_right _ (List.mem_append_right _ (List.mem_append_left _ (List.mem_of_getElem? (i := 3) rfl)))))))))))))))))
theorem gm_604 : Cond.code ⟨"DigestBoxModel", "hash", "(I[BII)V"⟩ prog_8_method_16_code 10 none ∈ GT := (List.mem_append_right _ (List.mem_append_right _ (List.mem_append_right _ (List.mem_append_right _ (List.mem_append_right _ (List.mem_append_right _ (List.mem_append_right _ (List.mem_append_right _ (List.mem_append_right _ (List.mem_append_right _ (List.mem_append_right _ (List.mem_append_right _ (List.mem_append_right _ (List.mem_append_right _ (List.mem_append_right _ (List.mem_append_left _ (List.mem_of_getElem? (i := 4) rfl)))))))))))))))))
theorem gm_605 : Cond.methodLink "DigestBoxModel" 98 ⟨"DigestBoxModel", "blocksOf", "(II)I"⟩ ∈ GT := (List.mem_append_right _ (List.mem_append_right _ (List.mem_append_right _ (List.mem_append_right _ (List.mem_append_right _ (List.mem_append_right _ (List.mem_append_right _ (List.mem_append_right _ (List.mem_append_right _ (List.mem_append_right _ (List.mem_append_right _ (List.mem_append_right _ (List.mem_append_right _ (List.mem_append_right _ (List.mem_append_right _ (List.mem_append_left _ (List.mem_of_getElem? (i := 5) rfl)))))))))))))))))
theorem gm_606 : Cond.static ⟨"DigestBoxModel", "blocksOf", "(II)I"⟩ ∈ GT := (List.mem_append_right _ (List.mem_append_right _ (List.mem_append_right _ (List.mem_append_right _ (List.mem_append_right _ (List.mem_append_right _ (List.mem_append_right _ (List.mem_append_right _ (List.mem_append_right _ (List.mem_append_right _ (List.mem_append_right _ (List.mem_append_right _ (List.mem_append_right _ (List.mem_append_right _ (List.mem_append_right _ (List.mem_append_left _ (List.mem_of_getElem? (i := 6) rfl)))))))))))))))))
theorem gm_607 : Cond.code ⟨"DigestBoxModel", "blocksOf", "(II)I"⟩ prog_8_method_10_code 3 (some .int) ∈ GT := (List.mem_append_right _ (List.mem_append_right _ (List.mem_append_right _ (List.mem_append_right _ (List.mem_append_right _ (List.mem_append_right _ (List.mem_append_right _ (List.mem_append_right _ (List.mem_append_right _ (List.mem_append_right _ (List.mem_append_right _ (List.mem_append_right _ (List.mem_append_right _ (List.mem_append_right _ (List.mem_append_right _ (List.mem_append_left _ (List.mem_of_getElem? (i := 7) rfl)))))))))))))))))
theorem gm_608 : Cond.methodLink "DigestBoxModel" 102 ⟨"DigestBoxModel", "padded", "([BIIII)I"⟩ ∈ GT := (List.mem_append_right _ (List.mem_append_right _ (List.mem_append_right _ (List.mem_append_right _ (List.mem_append_right _ (List.mem_append_right _ (List.mem_append_right _ (List.mem_append_right _ (List.mem_append_right _ (List.mem_append_right _ (List.mem_append_right _ (List.mem_append_right _ (List.mem_append_right _ (List.mem_append_right _ (List.mem_append_right _ (List.mem_append_left _ (List.mem_of_getElem? (i := 8) rfl)))))))))))))))))
theorem gm_609 : Cond.static ⟨"DigestBoxModel", "padded", "([BIIII)I"⟩ ∈ GT := (List.mem_append_right _ (List.mem_append_right _ (List.mem_append_right _ (List.mem_append_right _ (List.mem_append_right _ (List.mem_append_right _ (List.mem_append_right _ (List.mem_append_right _ (List.mem_append_right _ (List.mem_append_right _ (List.mem_append_right _ (List.mem_append_right _ (List.mem_append_right _ (List.mem_append_right _ (List.mem_append_right _ (List.mem_append_left _ (List.mem_of_getElem? (i := 9) rfl)))))))))))))))))
theorem gm_610 : Cond.code ⟨"DigestBoxModel", "padded", "([BIIII)I"⟩ prog_8_method_15_code 5 (some .int) ∈ GT := (List.mem_append_right _ (List.mem_append_right _ (List.mem_append_right _ (List.mem_append_right _ (List.mem_append_right _ (List.mem_append_right _ (List.mem_append_right _ (List.mem_append_right _ (List.mem_append_right _ (List.mem_append_right _ (List.mem_append_right _ (List.mem_append_right _ (List.mem_append_right _ (List.mem_append_right _ (List.mem_append_right _ (List.mem_append_left _ (List.mem_of_getElem? (i := 10) rfl)))))))))))))))))
theorem gm_611 : Cond.constantLong "DigestBoxModel" 96 8 ∈ GT := (List.mem_append_right _ (List.mem_append_right _ (List.mem_append_right _ (List.mem_append_right _ (List.mem_append_right _ (List.mem_append_right _ (List.mem_append_right _ (List.mem_append_right _ (List.mem_append_right _ (List.mem_append_right _ (List.mem_append_right _ (List.mem_append_right _ (List.mem_append_right _ (List.mem_append_right _ (List.mem_append_right _ (List.mem_append_left _ (List.mem_of_getElem? (i := 11) rfl)))))))))))))))))
theorem gm_612 : Cond.methodLink "DigestBoxModel" 106 ⟨"DigestBoxModel", "over", "()V"⟩ ∈ GT := (List.mem_append_right _ (List.mem_append_right _ (List.mem_append_right _ (List.mem_append_right _ (List.mem_append_right _ (List.mem_append_right _ (List.mem_append_right _ (List.mem_append_right _ (List.mem_append_right _ (List.mem_append_right _ (List.mem_append_right _ (List.mem_append_right _ (List.mem_append_right _ (List.mem_append_right _ (List.mem_append_right _ (List.mem_append_left _ (List.mem_of_getElem? (i := 12) rfl)))))))))))))))))
theorem gm_613 : Cond.instanceMethod ⟨"DigestBoxModel", "over", "()V"⟩ ∈ GT := (List.mem_append_right _ (List.mem_append_right _ (List.mem_append_right _ (List.mem_append_right _ (List.mem_append_right _ (List.mem_append_right _ (List.mem_append_right _ (List.mem_append_right _ (List.mem_append_right _ (List.mem_append_right _ (List.mem_append_right _ (List.mem_append_right _ (List.mem_append_right _ (List.mem_append_right _ (List.mem_append_right _ (List.mem_append_left _ (List.mem_of_getElem? (i := 13) rfl)))))))))))))))))
theorem gm_614 : Cond.code ⟨"DigestBoxModel", "over", "()V"⟩ prog_8_method_17_code 27 none ∈ GT := (List.mem_append_right _ (List.mem_append_right _ (List.mem_append_right _ (List.mem_append_right _ (List.mem_append_right _ (List.mem_append_right _ (List.mem_append_right _ (List.mem_append_right _ (List.mem_append_right _ (List.mem_append_right _ (List.mem_append_right _ (List.mem_append_right _ (List.mem_append_right _ (List.mem_append_right _ (List.mem_append_right _ (List.mem_append_left _ (List.mem_of_getElem? (i := 14) rfl)))))))))))))))))
theorem gm_615 : Cond.methodLink "DigestBoxModel" 112 ⟨"DigestBoxModel", "shifted", "(JIII)J"⟩ ∈ GT := (List.mem_append_right _ (List.mem_append_right _ (List.mem_append_right _ (List.mem_append_right _ (List.mem_append_right _ (List.mem_append_right _ (List.mem_append_right _ (List.mem_append_right _ (List.mem_append_right _ (List.mem_append_right _ (List.mem_append_right _ (List.mem_append_right _ (List.mem_append_right _ (List.mem_append_right _ (List.mem_append_right _ (List.mem_append_left _ (List.mem_of_getElem? (i := 15) rfl)))))))))))))))))
theorem gm_616 : Cond.instanceMethod ⟨"DigestBoxModel", "shifted", "(JIII)J"⟩ ∈ GT := (List.mem_append_right _ (List.mem_append_right _ (List.mem_append_right _ (List.mem_append_right _ (List.mem_append_right _ (List.mem_append_right _ (List.mem_append_right _ (List.mem_append_right _ (List.mem_append_right _ (List.mem_append_right _ (List.mem_append_right _ (List.mem_append_right _ (List.mem_append_right _ (List.mem_append_right _ (List.mem_append_right _ (List.mem_append_left _ (List.mem_of_getElem? (i := 16) rfl)))))))))))))))))
theorem gm_617 : Cond.code ⟨"DigestBoxModel", "shifted", "(JIII)J"⟩ prog_8_method_13_code 6 (some .long) ∈ GT := (List.mem_append_right _ (List.mem_append_right _ (List.mem_append_right _ (List.mem_append_right _ (List.mem_append_right _ (List.mem_append_right _ (List.mem_append_right _ (List.mem_append_right _ (List.mem_append_right _ (List.mem_append_right _ (List.mem_append_right _ (List.mem_append_right _ (List.mem_append_right _ (List.mem_append_right _ (List.mem_append_right _ (List.mem_append_left _ (List.mem_of_getElem? (i := 17) rfl)))))))))))))))))
theorem gm_618 : Cond.methodLink "DigestBoxModel" 92 ⟨"DigestBoxModel", "turned", "(JI)J"⟩ ∈ GT := (List.mem_append_right _ (List.mem_append_right _ (List.mem_append_right _ (List.mem_append_right _ (List.mem_append_right _ (List.mem_append_right _ (List.mem_append_right _ (List.mem_append_right _ (List.mem_append_right _ (List.mem_append_right _ (List.mem_append_right _ (List.mem_append_right _ (List.mem_append_right _ (List.mem_append_right _ (List.mem_append_right _ (List.mem_append_left _ (List.mem_of_getElem? (i := 18) rfl)))))))))))))))))
theorem gm_619 : Cond.instanceMethod ⟨"DigestBoxModel", "turned", "(JI)J"⟩ ∈ GT := (List.mem_append_right _ (List.mem_append_right _ (List.mem_append_right _ (List.mem_append_right _ (List.mem_append_right _ (List.mem_append_right _ (List.mem_append_right _ (List.mem_append_right _ (List.mem_append_right _ (List.mem_append_right _ (List.mem_append_right _ (List.mem_append_right _ (List.mem_append_right _ (List.mem_append_right _ (List.mem_append_right _ (List.mem_append_left _ (List.mem_of_getElem? (i := 19) rfl)))))))))))))))))
theorem gm_620 : Cond.code ⟨"DigestBoxModel", "turned", "(JI)J"⟩ prog_8_method_11_code 4 (some .long) ∈ GT := (List.mem_append_right _ (List.mem_append_right _ (List.mem_append_right _ (List.mem_append_right _ (List.mem_append_right _ (List.mem_append_right _ (List.mem_append_right _ (List.mem_append_right _ (List.mem_append_right _ (List.mem_append_right _ (List.mem_append_right _ (List.mem_append_right _ (List.mem_append_right _ (List.mem_append_right _ (List.mem_append_right _ (List.mem_append_left _ (List.mem_of_getElem? (i := 20) rfl)))))))))))))))))
theorem gm_621 : Cond.methodLink "DigestBoxModel" 116 ⟨"DigestBoxModel", "fit", "(J)J"⟩ ∈ GT := (List.mem_append_right _ (List.mem_append_right _ (List.mem_append_right _ (List.mem_append_right _ (List.mem_append_right _ (List.mem_append_right _ (List.mem_append_right _ (List.mem_append_right _ (List.mem_append_right _ (List.mem_append_right _ (List.mem_append_right _ (List.mem_append_right _ (List.mem_append_right _ (List.mem_append_right _ (List.mem_append_right _ (List.mem_append_left _ (List.mem_of_getElem? (i := 21) rfl)))))))))))))))))
theorem gm_622 : Cond.instanceMethod ⟨"DigestBoxModel", "fit", "(J)J"⟩ ∈ GT := (List.mem_append_right _ (List.mem_append_right _ (List.mem_append_right _ (List.mem_append_right _ (List.mem_append_right _ (List.mem_append_right _ (List.mem_append_right _ (List.mem_append_right _ (List.mem_append_right _ (List.mem_append_right _ (List.mem_append_right _ (List.mem_append_right _ (List.mem_append_right _ (List.mem_append_right _ (List.mem_append_right _ (List.mem_append_left _ (List.mem_of_getElem? (i := 22) rfl)))))))))))))))))
theorem gm_623 : Cond.code ⟨"DigestBoxModel", "fit", "(J)J"⟩ prog_8_method_14_code 3 (some .long) ∈ GT := (List.mem_append_right _ (List.mem_append_right _ (List.mem_append_right _ (List.mem_append_right _ (List.mem_append_right _ (List.mem_append_right _ (List.mem_append_right _ (List.mem_append_right _ (List.mem_append_right _ (List.mem_append_right _ (List.mem_append_right _ (List.mem_append_right _ (List.mem_append_right _ (List.mem_append_right _ (List.mem_append_right _ (List.mem_append_left _ (List.mem_of_getElem? (i := 23) rfl)))))))))))))))))
theorem gm_624 : Cond.methodLink "DigestBoxModel" 120 ⟨"DigestBoxModel", "mixed", "(JIII)J"⟩ ∈ GT := (List.mem_append_right _ (List.mem_append_right _ (List.mem_append_right _ (List.mem_append_right _ (List.mem_append_right _ (List.mem_append_right _ (List.mem_append_right _ (List.mem_append_right _ (List.mem_append_right _ (List.mem_append_right _ (List.mem_append_right _ (List.mem_append_right _ (List.mem_append_right _ (List.mem_append_right _ (List.mem_append_right _ (List.mem_append_left _ (List.mem_of_getElem? (i := 24) rfl)))))))))))))))))
theorem gm_625 : Cond.instanceMethod ⟨"DigestBoxModel", "mixed", "(JIII)J"⟩ ∈ GT := (List.mem_append_right _ (List.mem_append_right _ (List.mem_append_right _ (List.mem_append_right _ (List.mem_append_right _ (List.mem_append_right _ (List.mem_append_right _ (List.mem_append_right _ (List.mem_append_right _ (List.mem_append_right _ (List.mem_append_right _ (List.mem_append_right _ (List.mem_append_right _ (List.mem_append_right _ (List.mem_append_right _ (List.mem_append_left _ (List.mem_of_getElem? (i := 25) rfl)))))))))))))))))
theorem gm_626 : Cond.code ⟨"DigestBoxModel", "mixed", "(JIII)J"⟩ prog_8_method_12_code 6 (some .long) ∈ GT := (List.mem_append_right _ (List.mem_append_right _ (List.mem_append_right _ (List.mem_append_right _ (List.mem_append_right _ (List.mem_append_right _ (List.mem_append_right _ (List.mem_append_right _ (List.mem_append_right _ (List.mem_append_right _ (List.mem_append_right _ (List.mem_append_right _ (List.mem_append_right _ (List.mem_append_right _ (List.mem_append_right _ (List.mem_append_left _ (List.mem_of_getElem? (i := 26) rfl)))))))))))))))))
theorem gm_627 : Cond.constantLong "DigestBoxModel" 123 (-1) ∈ GT := (List.mem_append_right _ (List.mem_append_right _ (List.mem_append_right _ (List.mem_append_right _ (List.mem_append_right _ (List.mem_append_right _ (List.mem_append_right _ (List.mem_append_right _ (List.mem_append_right _ (List.mem_append_right _ (List.mem_append_right _ (List.mem_append_right _ (List.mem_append_right _ (List.mem_append_right _ (List.mem_append_right _ (List.mem_append_left _ (List.mem_of_getElem? (i := 27) rfl)))))))))))))))))
theorem gm_628 : Cond.methodLink "DigestBoxModel" 109 ⟨"DigestBoxModel", "size", "(I)I"⟩ ∈ GT := (List.mem_append_right _ (List.mem_append_right _ (List.mem_append_right _ (List.mem_append_right _ (List.mem_append_right _ (List.mem_append_right _ (List.mem_append_right _ (List.mem_append_right _ (List.mem_append_right _ (List.mem_append_right _ (List.mem_append_right _ (List.mem_append_right _ (List.mem_append_right _ (List.mem_append_right _ (List.mem_append_right _ (List.mem_append_left _ (List.mem_of_getElem? (i := 28) rfl)))))))))))))))))
theorem gm_629 : Cond.static ⟨"DigestBoxModel", "size", "(I)I"⟩ ∈ GT := (List.mem_append_right _ (List.mem_append_right _ (List.mem_append_right _ (List.mem_append_right _ (List.mem_append_right _ (List.mem_append_right _ (List.mem_append_right _ (List.mem_append_right _ (List.mem_append_right _ (List.mem_append_right _ (List.mem_append_right _ (List.mem_append_right _ (List.mem_append_right _ (List.mem_append_right _ (List.mem_append_right _ (List.mem_append_left _ (List.mem_of_getElem? (i := 29) rfl)))))))))))))))))
theorem gm_630 : Cond.code ⟨"DigestBoxModel", "size", "(I)I"⟩ prog_8_method_8_code 1 (some .int) ∈ GT := (List.mem_append_right _ (List.mem_append_right _ (List.mem_append_right _ (List.mem_append_right _ (List.mem_append_right _ (List.mem_append_right _ (List.mem_append_right _ (List.mem_append_right _ (List.mem_append_right _ (List.mem_append_right _ (List.mem_append_right _ (List.mem_append_right _ (List.mem_append_right _ (List.mem_append_right _ (List.mem_append_right _ (List.mem_append_left _ (List.mem_of_getElem? (i := 30) rfl)))))))))))))))))
theorem gm_631 : Cond.methodLink "DigestBoxLaw" 81 ⟨"DigestBoxModel", "key", "()I"⟩ ∈ GT := (List.mem_append_right _ (List.mem_append_right _ (List.mem_append_right _ (List.mem_append_right _ (List.mem_append_right _ (List.mem_append_right _ (List.mem_append_right _ (List.mem_append_right _ (List.mem_append_right _ (List.mem_append_right _ (List.mem_append_right _ (List.mem_append_right _ (List.mem_append_right _ (List.mem_append_right _ (List.mem_append_right _ (List.mem_append_left _ (List.mem_of_getElem? (i := 31) rfl)))))))))))))))))
theorem gm_632 : Cond.instanceMethod ⟨"DigestBoxModel", "key", "()I"⟩ ∈ GT := (List.mem_append_right _ (List.mem_append_right _ (List.mem_append_right _ (List.mem_append_right _ (List.mem_append_right _ (List.mem_append_right _ (List.mem_append_right _ (List.mem_append_right _ (List.mem_append_right _ (List.mem_append_right _ (List.mem_append_right _ (List.mem_append_right _ (List.mem_append_right _ (List.mem_append_right _ (List.mem_append_right _ (List.mem_append_left _ (List.mem_of_getElem? (i := 32) rfl)))))))))))))))))
theorem gm_633 : Cond.selects "DigestBoxModel" ⟨"DigestBoxModel", "key", "()I"⟩ ⟨"DigestBoxModel", "key", "()I"⟩ ∈ GT := (List.mem_append_right _ (List.mem_append_right _ (List.mem_append_right _ (List.mem_append_right _ (List.mem_append_right _ (List.mem_append_right _ (List.mem_append_right _ (List.mem_append_right _ (List.mem_append_right _ (List.mem_append_right _ (List.mem_append_right _ (List.mem_append_right _ (List.mem_append_right _ (List.mem_append_right _ (List.mem_append_right _ (List.mem_append_left _ (List.mem_of_getElem? (i := 33) rfl)))))))))))))))))
theorem gm_634 : Cond.code ⟨"DigestBoxModel", "key", "()I"⟩ prog_8_method_26_code 2 (some .int) ∈ GT := (List.mem_append_right _ (List.mem_append_right _ (List.mem_append_right _ (List.mem_append_right _ (List.mem_append_right _ (List.mem_append_right _ (List.mem_append_right _ (List.mem_append_right _ (List.mem_append_right _ (List.mem_append_right _ (List.mem_append_right _ (List.mem_append_right _ (List.mem_append_right _ (List.mem_append_right _ (List.mem_append_right _ (List.mem_append_left _ (List.mem_of_getElem? (i := 34) rfl)))))))))))))))))
theorem gm_635 : Cond.methodLink "DigestBoxLaw" 85 ⟨"DigestBoxModel", "keep", "()I"⟩ ∈ GT := (List.mem_append_right _ (List.mem_append_right _ (List.mem_append_right _ (List.mem_append_right _ (List.mem_append_right _ (List.mem_append_right _ (List.mem_append_right _ (List.mem_append_right _ (List.mem_append_right _ (List.mem_append_right _ (List.mem_append_right _ (List.mem_append_right _ (List.mem_append_right _ (List.mem_append_right _ (List.mem_append_right _ (List.mem_append_left _ (List.mem_of_getElem? (i := 35) rfl)))))))))))))))))
theorem gm_636 : Cond.instanceMethod ⟨"DigestBoxModel", "keep", "()I"⟩ ∈ GT := (List.mem_append_right _ (List.mem_append_right _ (List.mem_append_right _ (List.mem_append_right _ (List.mem_append_right _ (List.mem_append_right _ (List.mem_append_right _ (List.mem_append_right _ (List.mem_append_right _ (List.mem_append_right _ (List.mem_append_right _ (List.mem_append_right _ (List.mem_append_right _ (List.mem_append_right _ (List.mem_append_right _ (List.mem_append_left _ (List.mem_of_getElem? (i := 36) rfl)))))))))))))))))
theorem gm_637 : Cond.selects "DigestBoxModel" ⟨"DigestBoxModel", "keep", "()I"⟩ ⟨"DigestBoxModel", "keep", "()I"⟩ ∈ GT := (List.mem_append_right _ (List.mem_append_right _ (List.mem_append_right _ (List.mem_append_right _ (List.mem_append_right _ (List.mem_append_right _ (List.mem_append_right _ (List.mem_append_right _ (List.mem_append_right _ (List.mem_append_right _ (List.mem_append_right _ (List.mem_append_right _ (List.mem_append_right _ (List.mem_append_right _ (List.mem_append_right _ (List.mem_append_left _ (List.mem_of_getElem? (i := 37) rfl)))))))))))))))))
theorem gm_638 : Cond.code ⟨"DigestBoxModel", "keep", "()I"⟩ prog_8_method_27_code 2 (some .int) ∈ GT := (List.mem_append_right _ (List.mem_append_right _ (List.mem_append_right _ (List.mem_append_right _ (List.mem_append_right _ (List.mem_append_right _ (List.mem_append_right _ (List.mem_append_right _ (List.mem_append_right _ (List.mem_append_right _ (List.mem_append_right _ (List.mem_append_right _ (List.mem_append_right _ (List.mem_append_right _ (List.mem_append_right _ (List.mem_append_left _ (List.mem_of_getElem? (i := 38) rfl)))))))))))))))))
theorem gm_639 : Cond.methodLink "DigestBoxLaw" 88 ⟨"DigestBoxModel", "hmac", "(I)I"⟩ ∈ GT := (List.mem_append_right _ (List.mem_append_right _ (List.mem_append_right _ (List.mem_append_right _ (List.mem_append_right _ (List.mem_append_right _ (List.mem_append_right _ (List.mem_append_right _ (List.mem_append_right _ (List.mem_append_right _ (List.mem_append_right _ (List.mem_append_right _ (List.mem_append_right _ (List.mem_append_right _ (List.mem_append_right _ (List.mem_append_left _ (List.mem_of_getElem? (i := 39) rfl)))))))))))))))))
theorem gm_640 : Cond.instanceMethod ⟨"DigestBoxModel", "hmac", "(I)I"⟩ ∈ GT := (List.mem_append_right _ (List.mem_append_right _ (List.mem_append_right _ (List.mem_append_right _ (List.mem_append_right _ (List.mem_append_right _ (List.mem_append_right _ (List.mem_append_right _ (List.mem_append_right _ (List.mem_append_right _ (List.mem_append_right _ (List.mem_append_right _ (List.mem_append_right _ (List.mem_append_right _ (List.mem_append_right _ (List.mem_append_right _ (List.mem_of_getElem? (i := 0) rfl)))))))))))))))))
theorem gm_641 : Cond.selects "DigestBoxModel" ⟨"DigestBoxModel", "hmac", "(I)I"⟩ ⟨"DigestBoxModel", "hmac", "(I)I"⟩ ∈ GT := (List.mem_append_right _ (List.mem_append_right _ (List.mem_append_right _ (List.mem_append_right _ (List.mem_append_right _ (List.mem_append_right _ (List.mem_append_right _ (List.mem_append_right _ (List.mem_append_right _ (List.mem_append_right _ (List.mem_append_right _ (List.mem_append_right _ (List.mem_append_right _ (List.mem_append_right _ (List.mem_append_right _ (List.mem_append_right _ (List.mem_of_getElem? (i := 1) rfl)))))))))))))))))
theorem gm_642 : Cond.code ⟨"DigestBoxModel", "hmac", "(I)I"⟩ prog_8_method_28_code 3 (some .int) ∈ GT := (List.mem_append_right _ (List.mem_append_right _ (List.mem_append_right _ (List.mem_append_right _ (List.mem_append_right _ (List.mem_append_right _ (List.mem_append_right _ (List.mem_append_right _ (List.mem_append_right _ (List.mem_append_right _ (List.mem_append_right _ (List.mem_append_right _ (List.mem_append_right _ (List.mem_append_right _ (List.mem_append_right _ (List.mem_append_right _ (List.mem_of_getElem? (i := 2) rfl)))))))))))))))))
theorem gm_643 : Cond.methodLink "DigestBoxModel" 147 ⟨"DigestBoxModel", "prepare", "(I)V"⟩ ∈ GT := (List.mem_append_right _ (List.mem_append_right _ (List.mem_append_right _ (List.mem_append_right _ (List.mem_append_right _ (List.mem_append_right _ (List.mem_append_right _ (List.mem_append_right _ (List.mem_append_right _ (List.mem_append_right _ (List.mem_append_right _ (List.mem_append_right _ (List.mem_append_right _ (List.mem_append_right _ (List.mem_append_right _ (List.mem_append_right _ (List.mem_of_getElem? (i := 3) rfl)))))))))))))))))
theorem gm_644 : Cond.instanceMethod ⟨"DigestBoxModel", "prepare", "(I)V"⟩ ∈ GT := (List.mem_append_right _ (List.mem_append_right _ (List.mem_append_right _ (List.mem_append_right _ (List.mem_append_right _ (List.mem_append_right _ (List.mem_append_right _ (List.mem_append_right _ (List.mem_append_right _ (List.mem_append_right _ (List.mem_append_right _ (List.mem_append_right _ (List.mem_append_right _ (List.mem_append_right _ (List.mem_append_right _ (List.mem_append_right _ (List.mem_of_getElem? (i := 4) rfl)))))))))))))))))
theorem gm_645 : Cond.code ⟨"DigestBoxModel", "prepare", "(I)V"⟩ prog_8_method_18_code 4 none ∈ GT := (List.mem_append_right _ (List.mem_append_right _ (List.mem_append_right _ (List.mem_append_right _ (List.mem_append_right _ (List.mem_append_right _ (List.mem_append_right _ (List.mem_append_right _ (List.mem_append_right _ (List.mem_append_right _ (List.mem_append_right _ (List.mem_append_right _ (List.mem_append_right _ (List.mem_append_right _ (List.mem_append_right _ (List.mem_append_right _ (List.mem_of_getElem? (i := 5) rfl)))))))))))))))))
theorem gm_646 : Cond.methodLink "DigestBoxModel" 151 ⟨"DigestBoxModel", "keyed", "(II)V"⟩ ∈ GT := (List.mem_append_right _ (List.mem_append_right _ (List.mem_append_right _ (List.mem_append_right _ (List.mem_append_right _ (List.mem_append_right _ (List.mem_append_right _ (List.mem_append_right _ (List.mem_append_right _ (List.mem_append_right _ (List.mem_append_right _ (List.mem_append_right _ (List.mem_append_right _ (List.mem_append_right _ (List.mem_append_right _ (List.mem_append_right _ (List.mem_of_getElem? (i := 6) rfl)))))))))))))))))
theorem gm_647 : Cond.instanceMethod ⟨"DigestBoxModel", "keyed", "(II)V"⟩ ∈ GT := (List.mem_append_right _ (List.mem_append_right _ (List.mem_append_right _ (List.mem_append_right _ (List.mem_append_right _ (List.mem_append_right _ (List.mem_append_right _ (List.mem_append_right _ (List.mem_append_right _ (List.mem_append_right _ (List.mem_append_right _ (List.mem_append_right _ (List.mem_append_right _ (List.mem_append_right _ (List.mem_append_right _ (List.mem_append_right _ (List.mem_of_getElem? (i := 7) rfl)))))))))))))))))
theorem gm_648 : Cond.code ⟨"DigestBoxModel", "keyed", "(II)V"⟩ prog_8_method_19_code 5 none ∈ GT := (List.mem_append_right _ (List.mem_append_right _ (List.mem_append_right _ (List.mem_append_right _ (List.mem_append_right _ (List.mem_append_right _ (List.mem_append_right _ (List.mem_append_right _ (List.mem_append_right _ (List.mem_append_right _ (List.mem_append_right _ (List.mem_append_right _ (List.mem_append_right _ (List.mem_append_right _ (List.mem_append_right _ (List.mem_append_right _ (List.mem_of_getElem? (i := 8) rfl)))))))))))))))))
theorem gm_649 : Cond.methodLink "DigestBoxLaw" 92 ⟨"DigestBoxModel", "expand", "(II)I"⟩ ∈ GT := (List.mem_append_right _ (List.mem_append_right _ (List.mem_append_right _ (List.mem_append_right _ (List.mem_append_right _ (List.mem_append_right _ (List.mem_append_right _ (List.mem_append_right _ (List.mem_append_right _ (List.mem_append_right _ (List.mem_append_right _ (List.mem_append_right _ (List.mem_append_right _ (List.mem_append_right _ (List.mem_append_right _ (List.mem_append_right _ (List.mem_of_getElem? (i := 9) rfl)))))))))))))))))
theorem gm_650 : Cond.instanceMethod ⟨"DigestBoxModel", "expand", "(II)I"⟩ ∈ GT := (List.mem_append_right _ (List.mem_append_right _ (List.mem_append_right _ (List.mem_append_right _ (List.mem_append_right _ (List.mem_append_right _ (List.mem_append_right _ (List.mem_append_right _ (List.mem_append_right _ (List.mem_append_right _ (List.mem_append_right _ (List.mem_append_right _ (List.mem_append_right _ (List.mem_append_right _ (List.mem_append_right _ (List.mem_append_right _ (List.mem_of_getElem? (i := 10) rfl)))))))))))))))))
theorem gm_651 : Cond.selects "DigestBoxModel" ⟨"DigestBoxModel", "expand", "(II)I"⟩ ⟨"DigestBoxModel", "expand", "(II)I"⟩ ∈ GT := (List.mem_append_right _ (List.mem_append_right _ (List.mem_append_right _ (List.mem_append_right _ (List.mem_append_right _ (List.mem_append_right _ (List.mem_append_right _ (List.mem_append_right _ (List.mem_append_right _ (List.mem_append_right _ (List.mem_append_right _ (List.mem_append_right _ (List.mem_append_right _ (List.mem_append_right _ (List.mem_append_right _ (List.mem_append_right _ (List.mem_of_getElem? (i := 11) rfl)))))))))))))))))
theorem gm_652 : Cond.code ⟨"DigestBoxModel", "expand", "(II)I"⟩ prog_8_method_30_code 3 (some .int) ∈ GT := (List.mem_append_right _ (List.mem_append_right _ (List.mem_append_right _ (List.mem_append_right _ (List.mem_append_right _ (List.mem_append_right _ (List.mem_append_right _ (List.mem_append_right _ (List.mem_append_right _ (List.mem_append_right _ (List.mem_append_right _ (List.mem_append_right _ (List.mem_append_right _ (List.mem_append_right _ (List.mem_append_right _ (List.mem_append_right _ (List.mem_of_getElem? (i := 12) rfl)))))))))))))))))
theorem gm_653 : Cond.methodLink "DigestBoxModel" 155 ⟨"DigestBoxModel", "expanded", "(II)I"⟩ ∈ GT := (List.mem_append_right _ (List.mem_append_right _ (List.mem_append_right _ (List.mem_append_right _ (List.mem_append_right _ (List.mem_append_right _ (List.mem_append_right _ (List.mem_append_right _ (List.mem_append_right _ (List.mem_append_right _ (List.mem_append_right _ (List.mem_append_right _ (List.mem_append_right _ (List.mem_append_right _ (List.mem_append_right _ (List.mem_append_right _ (List.mem_of_getElem? (i := 13) rfl)))))))))))))))))
theorem gm_654 : Cond.instanceMethod ⟨"DigestBoxModel", "expanded", "(II)I"⟩ ∈ GT := (List.mem_append_right _ (List.mem_append_right _ (List.mem_append_right _ (List.mem_append_right _ (List.mem_append_right _ (List.mem_append_right _ (List.mem_append_right _ (List.mem_append_right _ (List.mem_append_right _ (List.mem_append_right _ (List.mem_append_right _ (List.mem_append_right _ (List.mem_append_right _ (List.mem_append_right _ (List.mem_append_right _ (List.mem_append_right _ (List.mem_of_getElem? (i := 14) rfl)))))))))))))))))
theorem gm_655 : Cond.code ⟨"DigestBoxModel", "expanded", "(II)I"⟩ prog_8_method_29_code 7 (some .int) ∈ GT := (List.mem_append_right _ (List.mem_append_right _ (List.mem_append_right _ (List.mem_append_right _ (List.mem_append_right _ (List.mem_append_right _ (List.mem_append_right _ (List.mem_append_right _ (List.mem_append_right _ (List.mem_append_right _ (List.mem_append_right _ (List.mem_append_right _ (List.mem_append_right _ (List.mem_append_right _ (List.mem_append_right _ (List.mem_append_right _ (List.mem_of_getElem? (i := 15) rfl)))))))))))))))))
theorem gm_656 : Cond.methodLink "DigestBoxLaw" 96 ⟨"DigestBoxModel", "expandLabel", "(III)I"⟩ ∈ GT := (List.mem_append_right _ (List.mem_append_right _ (List.mem_append_right _ (List.mem_append_right _ (List.mem_append_right _ (List.mem_append_right _ (List.mem_append_right _ (List.mem_append_right _ (List.mem_append_right _ (List.mem_append_right _ (List.mem_append_right _ (List.mem_append_right _ (List.mem_append_right _ (List.mem_append_right _ (List.mem_append_right _ (List.mem_append_right _ (List.mem_of_getElem? (i := 16) rfl)))))))))))))))))
theorem gm_657 : Cond.instanceMethod ⟨"DigestBoxModel", "expandLabel", "(III)I"⟩ ∈ GT := (List.mem_append_right _ (List.mem_append_right _ (List.mem_append_right _ (List.mem_append_right _ (List.mem_append_right _ (List.mem_append_right _ (List.mem_append_right _ (List.mem_append_right _ (List.mem_append_right _ (List.mem_append_right _ (List.mem_append_right _ (List.mem_append_right _ (List.mem_append_right _ (List.mem_append_right _ (List.mem_append_right _ (List.mem_append_right _ (List.mem_of_getElem? (i := 17) rfl)))))))))))))))))
theorem gm_658 : Cond.selects "DigestBoxModel" ⟨"DigestBoxModel", "expandLabel", "(III)I"⟩ ⟨"DigestBoxModel", "expandLabel", "(III)I"⟩ ∈ GT := (List.mem_append_right _ (List.mem_append_right _ (List.mem_append_right _ (List.mem_append_right _ (List.mem_append_right _ (List.mem_append_right _ (List.mem_append_right _ (List.mem_append_right _ (List.mem_append_right _ (List.mem_append_right _ (List.mem_append_right _ (List.mem_append_right _ (List.mem_append_right _ (List.mem_append_right _ (List.mem_append_right _ (List.mem_append_right _ (List.mem_of_getElem? (i := 18) rfl)))))))))))))))))
theorem gm_659 : Cond.code ⟨"DigestBoxModel", "expandLabel", "(III)I"⟩ prog_8_method_31_code 6 (some .int) ∈ GT := (List.mem_append_right _ (List.mem_append_right _ (List.mem_append_right _ (List.mem_append_right _ (List.mem_append_right _ (List.mem_append_right _ (List.mem_append_right _ (List.mem_append_right _ (List.mem_append_right _ (List.mem_append_right _ (List.mem_append_right _ (List.mem_append_right _ (List.mem_append_right _ (List.mem_append_right _ (List.mem_append_right _ (List.mem_append_right _ (List.mem_of_getElem? (i := 19) rfl)))))))))))))))))
theorem gm_660 : Cond.methodLink "DigestBoxLaw" 99 ⟨"DigestBoxModel", "result", "(I)I"⟩ ∈ GT := (List.mem_append_right _ (List.mem_append_right _ (List.mem_append_right _ (List.mem_append_right _ (List.mem_append_right _ (List.mem_append_right _ (List.mem_append_right _ (List.mem_append_right _ (List.mem_append_right _ (List.mem_append_right _ (List.mem_append_right _ (List.mem_append_right _ (List.mem_append_right _ (List.mem_append_right _ (List.mem_append_right _ (List.mem_append_right _ (List.mem_of_getElem? (i := 20) rfl)))))))))))))))))
theorem gm_661 : Cond.instanceMethod ⟨"DigestBoxModel", "result", "(I)I"⟩ ∈ GT := (List.mem_append_right _ (List.mem_append_right _ (List.mem_append_right _ (List.mem_append_right _ (List.mem_append_right _ (List.mem_append_right _ (List.mem_append_right _ (List.mem_append_right _ (List.mem_append_right _ (List.mem_append_right _ (List.mem_append_right _ (List.mem_append_right _ (List.mem_append_right _ (List.mem_append_right _ (List.mem_append_right _ (List.mem_append_right _ (List.mem_of_getElem? (i := 21) rfl)))))))))))))))))
theorem gm_662 : Cond.selects "DigestBoxModel" ⟨"DigestBoxModel", "result", "(I)I"⟩ ⟨"DigestBoxModel", "result", "(I)I"⟩ ∈ GT := (List.mem_append_right _ (List.mem_append_right _ (List.mem_append_right _ (List.mem_append_right _ (List.mem_append_right _ (List.mem_append_right _ (List.mem_append_right _ (List.mem_append_right _ (List.mem_append_right _ (List.mem_append_right _ (List.mem_append_right _ (List.mem_append_right _ (List.mem_append_right _ (List.mem_append_right _ (List.mem_append_right _ (List.mem_append_right _ (List.mem_of_getElem? (i := 22) rfl)))))))))))))))))
theorem gm_663 : Cond.code ⟨"DigestBoxModel", "result", "(I)I"⟩ prog_8_method_32_code 2 (some .int) ∈ GT := (List.mem_append_right _ (List.mem_append_right _ (List.mem_append_right _ (List.mem_append_right _ (List.mem_append_right _ (List.mem_append_right _ (List.mem_append_right _ (List.mem_append_right _ (List.mem_append_right _ (List.mem_append_right _ (List.mem_append_right _ (List.mem_append_right _ (List.mem_append_right _ (List.mem_append_right _ (List.mem_append_right _ (List.mem_append_right _ (List.mem_of_getElem? (i := 23) rfl)))))))))))))))))
theorem gm_664 : Cond.methodLink "DigestBoxLaw" 103 ⟨"DigestBoxModel", "count", "(I)I"⟩ ∈ GT := (List.mem_append_right _ (List.mem_append_right _ (List.mem_append_right _ (List.mem_append_right _ (List.mem_append_right _ (List.mem_append_right _ (List.mem_append_right _ (List.mem_append_right _ (List.mem_append_right _ (List.mem_append_right _ (List.mem_append_right _ (List.mem_append_right _ (List.mem_append_right _ (List.mem_append_right _ (List.mem_append_right _ (List.mem_append_right _ (List.mem_of_getElem? (i := 24) rfl)))))))))))))))))
theorem gm_665 : Cond.instanceMethod ⟨"DigestBoxModel", "count", "(I)I"⟩ ∈ GT := (List.mem_append_right _ (List.mem_append_right _ (List.mem_append_right _ (List.mem_append_right _ (List.mem_append_right _ (List.mem_append_right _ (List.mem_append_right _ (List.mem_append_right _ (List.mem_append_right _ (List.mem_append_right _ (List.mem_append_right _ (List.mem_append_right _ (List.mem_append_right _ (List.mem_append_right _ (List.mem_append_right _ (List.mem_append_right _ (List.mem_of_getElem? (i := 25) rfl)))))))))))))))))
theorem gm_666 : Cond.selects "DigestBoxModel" ⟨"DigestBoxModel", "count", "(I)I"⟩ ⟨"DigestBoxModel", "count", "(I)I"⟩ ∈ GT := (List.mem_append_right _ (List.mem_append_right _ (List.mem_append_right _ (List.mem_append_right _ (List.mem_append_right _ (List.mem_append_right _ (List.mem_append_right _ (List.mem_append_right _ (List.mem_append_right _ (List.mem_append_right _ (List.mem_append_right _ (List.mem_append_right _ (List.mem_append_right _ (List.mem_append_right _ (List.mem_append_right _ (List.mem_append_right _ (List.mem_of_getElem? (i := 26) rfl)))))))))))))))))
theorem gm_667 : Cond.code ⟨"DigestBoxModel", "count", "(I)I"⟩ prog_8_method_33_code 2 (some .int) ∈ GT := (List.mem_append_right _ (List.mem_append_right _ (List.mem_append_right _ (List.mem_append_right _ (List.mem_append_right _ (List.mem_append_right _ (List.mem_append_right _ (List.mem_append_right _ (List.mem_append_right _ (List.mem_append_right _ (List.mem_append_right _ (List.mem_append_right _ (List.mem_append_right _ (List.mem_append_right _ (List.mem_append_right _ (List.mem_append_right _ (List.mem_of_getElem? (i := 27) rfl)))))))))))))))))
theorem gm_668 : Cond.sameMethod "java/lang/Throwable" "java/lang/Throwable" "fillInStackTrace" "(I)Ljava/lang/Throwable;" ∈ GT := (List.mem_append_right _ (List.mem_append_right _ (List.mem_append_right _ (List.mem_append_right _ (List.mem_append_right _ (List.mem_append_right _ (List.mem_append_right _ (List.mem_append_right _ (List.mem_append_right _ (List.mem_append_right _ (List.mem_append_right _ (List.mem_append_right _ (List.mem_append_right _ (List.mem_append_right _ (List.mem_append_right _ (List.mem_append_right _ (List.mem_of_getElem? (i := 28) rfl)))))))))))))))))
theorem gm_669 : Cond.sameMethod "DigestBox$Sha" "DigestBox$Sha" "begin" "()V" ∈ GT := (List.mem_append_right _ (List.mem_append_right _ (List.mem_append_right _ (List.mem_append_right _ (List.mem_append_right _ (List.mem_append_right _ (List.mem_append_right _ (List.mem_append_right _ (List.mem_append_right _ (List.mem_append_right _ (List.mem_append_right _ (List.mem_append_right _ (List.mem_append_right _ (List.mem_append_right _ (List.mem_append_right _ (List.mem_append_right _ (List.mem_of_getElem? (i := 29) rfl)))))))))))))))))
theorem gm_670 : Cond.sameMethod "DigestBox$Sha" "DigestBox$Sha" "resume" "([JI)V" ∈ GT := (List.mem_append_right _ (List.mem_append_right _ (List.mem_append_right _ (List.mem_append_right _ (List.mem_append_right _ (List.mem_append_right _ (List.mem_append_right _ (List.mem_append_right _ (List.mem_append_right _ (List.mem_append_right _ (List.mem_append_right _ (List.mem_append_right _ (List.mem_append_right _ (List.mem_append_right _ (List.mem_append_right _ (List.mem_append_right _ (List.mem_of_getElem? (i := 30) rfl)))))))))))))))))
theorem gm_671 : Cond.sameMethod "DigestBox$Sha" "DigestBox$Sha" "take" "([BII)V" ∈ GT := (List.mem_append_right _ (List.mem_append_right _ (List.mem_append_right _ (List.mem_append_right _ (List.mem_append_right _ (List.mem_append_right _ (List.mem_append_right _ (List.mem_append_right _ (List.mem_append_right _ (List.mem_append_right _ (List.mem_append_right _ (List.mem_append_right _ (List.mem_append_right _ (List.mem_append_right _ (List.mem_append_right _ (List.mem_append_right _ (List.mem_of_getElem? (i := 31) rfl)))))))))))))))))
theorem gm_672 : Cond.sameMethod "DigestBox$Sha" "DigestBox$Sha" "goOverBlock" "()V" ∈ GT := (List.mem_append_right _ (List.mem_append_right _ (List.mem_append_right _ (List.mem_append_right _ (List.mem_append_right _ (List.mem_append_right _ (List.mem_append_right _ (List.mem_append_right _ (List.mem_append_right _ (List.mem_append_right _ (List.mem_append_right _ (List.mem_append_right _ (List.mem_append_right _ (List.mem_append_right _ (List.mem_append_right _ (List.mem_append_right _ (List.mem_of_getElem? (i := 32) rfl)))))))))))))))))
theorem gm_673 : Cond.sameMethod "DigestBox$Sha" "DigestBox$Sha" "becomeCopyOf" "(LDigestBox$Sha;)V" ∈ GT := (List.mem_append_right _ (List.mem_append_right _ (List.mem_append_right _ (List.mem_append_right _ (List.mem_append_right _ (List.mem_append_right _ (List.mem_append_right _ (List.mem_append_right _ (List.mem_append_right _ (List.mem_append_right _ (List.mem_append_right _ (List.mem_append_right _ (List.mem_append_right _ (List.mem_append_right _ (List.mem_append_right _ (List.mem_append_right _ (List.mem_of_getElem? (i := 33) rfl)))))))))))))))))
theorem gm_674 : Cond.sameMethod "DigestBox$Sha" "DigestBox$Sha" "close" "([BI)V" ∈ GT := (List.mem_append_right _ (List.mem_append_right _ (List.mem_append_right _ (List.mem_append_right _ (List.mem_append_right _ (List.mem_append_right _ (List.mem_append_right _ (List.mem_append_right _ (List.mem_append_right _ (List.mem_append_right _ (List.mem_append_right _ (List.mem_append_right _ (List.mem_append_right _ (List.mem_append_right _ (List.mem_append_right _ (List.mem_append_right _ (List.mem_of_getElem? (i := 34) rfl)))))))))))))))))
theorem gm_675 : Cond.sameMethod "DigestBox$Sha" "DigestBox$Sha" "fillUpWithZeros" "()V" ∈ GT := (List.mem_append_right _ (List.mem_append_right _ (List.mem_append_right _ (List.mem_append_right _ (List.mem_append_right _ (List.mem_append_right _ (List.mem_append_right _ (List.mem_append_right _ (List.mem_append_right _ (List.mem_append_right _ (List.mem_append_right _ (List.mem_append_right _ (List.mem_append_right _ (List.mem_append_right _ (List.mem_append_right _ (List.mem_append_right _ (List.mem_of_getElem? (i := 35) rfl)))))))))))))))))
theorem gm_676 : Cond.sameMethod "DigestBox$Sha" "DigestBox$Sha" "writeLengthInBits" "()V" ∈ GT := (List.mem_append_right _ (List.mem_append_right _ (List.mem_append_right _ (List.mem_append_right _ (List.mem_append_right _ (List.mem_append_right _ (List.mem_append_right _ (List.mem_append_right _ (List.mem_append_right _ (List.mem_append_right _ (List.mem_append_right _ (List.mem_append_right _ (List.mem_append_right _ (List.mem_append_right _ (List.mem_append_right _ (List.mem_append_right _ (List.mem_of_getElem? (i := 36) rfl)))))))))))))))))
theorem gm_677 : Cond.sameMethod "DigestBox$Sha" "DigestBox$Sha" "writeHash" "([BI)V" ∈ GT := (List.mem_append_right _ (List.mem_append_right _ (List.mem_append_right _ (List.mem_append_right _ (List.mem_append_right _ (List.mem_append_right _ (List.mem_append_right _ (List.mem_append_right _ (List.mem_append_right _ (List.mem_append_right _ (List.mem_append_right _ (List.mem_append_right _ (List.mem_append_right _ (List.mem_append_right _ (List.mem_append_right _ (List.mem_append_right _ (List.mem_of_getElem? (i := 37) rfl)))))))))))))))))
theorem gm_678 : Cond.sameMethod "DigestBox$Sha" "DigestBox$Sha" "takeByte" "(I)V" ∈ GT := (List.mem_append_right _ (List.mem_append_right _ (List.mem_append_right _ (List.mem_append_right _ (List.mem_append_right _ (List.mem_append_right _ (List.mem_append_right _ (List.mem_append_right _ (List.mem_append_right _ (List.mem_append_right _ (List.mem_append_right _ (List.mem_append_right _ (List.mem_append_right _ (List.mem_append_right _ (List.mem_append_right _ (List.mem_append_right _ (List.mem_of_getElem? (i := 38) rfl)))))))))))))))))
theorem gm_679 : Cond.superclass "java/lang/Throwable" "java/lang/Object" ∈ GT := (List.mem_append_right _ (List.mem_append_right _ (List.mem_append_right _ (List.mem_append_right _ (List.mem_append_right _ (List.mem_append_right _ (List.mem_append_right _ (List.mem_append_right _ (List.mem_append_right _ (List.mem_append_right _ (List.mem_append_right _ (List.mem_append_right _ (List.mem_append_right _ (List.mem_append_right _ (List.mem_append_right _ (List.mem_append_right _ (List.mem_of_getElem? (i := 39) rfl)))))))))))))))))
def gWarm : List Cond := [Cond.methodLinkNest "DigestBox" 9 ⟨"DigestBox$Row", "<init>", "()V"⟩ "DigestBox",
  Cond.fieldLinkNest "DigestBox$Mac" 64 "DigestBox$Row" "bytes" "[B" "DigestBox",
  Cond.fieldLinkNest "DigestBox" 79 "DigestBox$Row" "bytes" "[B" "DigestBox",
  Cond.fieldLinkNest "DigestBox" 58 "DigestBox$Row" "length" "I" "DigestBox",
  Cond.fieldLinkNest "DigestBox$Mac" 56 "DigestBox$Row" "length" "I" "DigestBox",
  Cond.fieldLinkNest "DigestBox" 87 "DigestBox$Sha" "total" "J" "DigestBox",
  Cond.fieldLinkNest "DigestBox$Mac" 36 "DigestBox$Sha" "blocks" "I" "DigestBox",
  Cond.fieldLinkNest "DigestBox" 145 "DigestBox$Sha" "blocks" "I" "DigestBox",
  Cond.fieldLinkNest "DigestBox" 91 "DigestBox$Mac" "sha" "LDigestBox$Sha;" "DigestBox",
  Cond.methodLinkNest "DigestBox" 109 ⟨"DigestBox$Row", "becomeCopyOf", "(LDigestBox$Row;)V"⟩ "DigestBox",
  Cond.declares ⟨"java/lang/RuntimeException", "<init>", "()V"⟩,
  Cond.declares ⟨"java/lang/RuntimeException", "<init>", "(Ljava/lang/String;)V"⟩,
  Cond.declares ⟨"java/lang/Exception", "<init>", "()V"⟩,
  Cond.declares ⟨"java/lang/Exception", "<init>", "(Ljava/lang/String;)V"⟩,
  Cond.declares ⟨"java/lang/Throwable", "<init>", "()V"⟩,
  Cond.declares ⟨"java/lang/Throwable", "<init>", "(Ljava/lang/String;)V"⟩,
  Cond.methodLinkNest "DigestBox" 66 ⟨"DigestBox$Row", "appendNumber", "(I)V"⟩ "DigestBox",
  Cond.methodLinkNest "DigestBox" 76 ⟨"DigestBox$Sha", "begin", "()V"⟩ "DigestBox",
  Cond.methodLinkNest "DigestBox" 83 ⟨"DigestBox$Sha", "take", "([BII)V"⟩ "DigestBox",
  Cond.declares ⟨"DigestBox$Sha", "fillSchedule", "()V"⟩,
  Cond.declares ⟨"DigestBox$Sha", "mixSchedule", "()V"⟩,
  Cond.methodLinkNest "DigestBox" 95 ⟨"DigestBox$Sha", "becomeCopyOf", "(LDigestBox$Sha;)V"⟩ "DigestBox",
  Cond.methodLinkNest "DigestBox" 148 ⟨"DigestBox$Row", "makeRoom", "(I)V"⟩ "DigestBox",
  Cond.methodLinkNest "DigestBox" 105 ⟨"DigestBox$Sha", "close", "([BI)V"⟩ "DigestBox",
  Cond.methodLinkNest "DigestBox" 112 ⟨"DigestBox$Mac", "setKey", "(LDigestBox$Row;)V"⟩ "DigestBox",
  Cond.methodLinkNest "DigestBox$Mac" 61 ⟨"DigestBox$Sha", "begin", "()V"⟩ "DigestBox",
  Cond.methodLinkNest "DigestBox$Mac" 67 ⟨"DigestBox$Sha", "take", "([BII)V"⟩ "DigestBox",
  Cond.methodLinkNest "DigestBox$Mac" 71 ⟨"DigestBox$Sha", "close", "([BI)V"⟩ "DigestBox",
  Cond.methodLinkNest "DigestBox$Mac" 81 ⟨"DigestBox$Sha", "takeByte", "(I)V"⟩ "DigestBox",
  Cond.methodLinkNest "DigestBox" 115 ⟨"DigestBox$Mac", "beginText", "()V"⟩ "DigestBox",
  Cond.methodLinkNest "DigestBox$Mac" 88 ⟨"DigestBox$Sha", "resume", "([JI)V"⟩ "DigestBox",
  Cond.methodLinkNest "DigestBox" 118 ⟨"DigestBox$Mac", "closeText", "([BI)V"⟩ "DigestBox",
  Cond.methodLinkNest "DigestBox" 160 ⟨"DigestBox$Sha", "takeByte", "(I)V"⟩ "DigestBox",
  Cond.methodLinkNest "DigestBox" 151 ⟨"DigestBox$Row", "appendByte", "(I)V"⟩ "DigestBox",
  Cond.methodLinkNest "DigestBox" 157 ⟨"DigestBox$Row", "append", "([BII)V"⟩ "DigestBox",
  Cond.castable "java/lang/IllegalStateException" "java/lang/IllegalStateException",
  Cond.castable "java/lang/IllegalArgumentException" "java/lang/IllegalArgumentException",
  Cond.castable "java/util/NoSuchElementException" "java/util/NoSuchElementException",
  Cond.castable "java/lang/IndexOutOfBoundsException" "java/lang/IndexOutOfBoundsException",
  Cond.castable "java/lang/ArrayIndexOutOfBoundsException" "java/lang/IndexOutOfBoundsException",
  Cond.castable "DigestBox$NarrowSha" "DigestBox$Sha",
  Cond.castable "DigestBox$WideSha" "DigestBox$Sha"]
theorem gWarm_kind : ∀ w ∈ gWarm, (∃ a i b n d x, w = .fieldLinkNest a i b n d x) ∨ (∃ a i x y, w = .methodLinkNest a i x y) ∨ (∃ x, w = .declares x) ∨ (∃ x y, w = .castable x y) := by
  intro w h
  simp only [gWarm, List.mem_cons, List.not_mem_nil, or_false] at h
  rcases h with rfl | rfl | rfl | rfl | rfl | rfl | rfl | rfl | rfl | rfl | rfl | rfl | rfl | rfl | rfl | rfl | rfl | rfl | rfl | rfl | rfl | rfl | rfl | rfl | rfl | rfl | rfl | rfl | rfl | rfl | rfl | rfl | rfl | rfl | rfl | rfl | rfl | rfl | rfl | rfl | rfl | rfl
  · exact Or.inr (Or.inl ⟨_, _, _, _, rfl⟩)
  · exact Or.inl ⟨_, _, _, _, _, _, rfl⟩
  · exact Or.inl ⟨_, _, _, _, _, _, rfl⟩
  · exact Or.inl ⟨_, _, _, _, _, _, rfl⟩
  · exact Or.inl ⟨_, _, _, _, _, _, rfl⟩
  · exact Or.inl ⟨_, _, _, _, _, _, rfl⟩
  · exact Or.inl ⟨_, _, _, _, _, _, rfl⟩
  · exact Or.inl ⟨_, _, _, _, _, _, rfl⟩
  · exact Or.inl ⟨_, _, _, _, _, _, rfl⟩
  · exact Or.inr (Or.inl ⟨_, _, _, _, rfl⟩)
  · exact Or.inr (Or.inr (Or.inl ⟨_, rfl⟩))
  · exact Or.inr (Or.inr (Or.inl ⟨_, rfl⟩))
  · exact Or.inr (Or.inr (Or.inl ⟨_, rfl⟩))
  · exact Or.inr (Or.inr (Or.inl ⟨_, rfl⟩))
  · exact Or.inr (Or.inr (Or.inl ⟨_, rfl⟩))
  · exact Or.inr (Or.inr (Or.inl ⟨_, rfl⟩))
  · exact Or.inr (Or.inl ⟨_, _, _, _, rfl⟩)
  · exact Or.inr (Or.inl ⟨_, _, _, _, rfl⟩)
  · exact Or.inr (Or.inl ⟨_, _, _, _, rfl⟩)
  · exact Or.inr (Or.inr (Or.inl ⟨_, rfl⟩))
  · exact Or.inr (Or.inr (Or.inl ⟨_, rfl⟩))
  · exact Or.inr (Or.inl ⟨_, _, _, _, rfl⟩)
  · exact Or.inr (Or.inl ⟨_, _, _, _, rfl⟩)
  · exact Or.inr (Or.inl ⟨_, _, _, _, rfl⟩)
  · exact Or.inr (Or.inl ⟨_, _, _, _, rfl⟩)
  · exact Or.inr (Or.inl ⟨_, _, _, _, rfl⟩)
  · exact Or.inr (Or.inl ⟨_, _, _, _, rfl⟩)
  · exact Or.inr (Or.inl ⟨_, _, _, _, rfl⟩)
  · exact Or.inr (Or.inl ⟨_, _, _, _, rfl⟩)
  · exact Or.inr (Or.inl ⟨_, _, _, _, rfl⟩)
  · exact Or.inr (Or.inl ⟨_, _, _, _, rfl⟩)
  · exact Or.inr (Or.inl ⟨_, _, _, _, rfl⟩)
  · exact Or.inr (Or.inl ⟨_, _, _, _, rfl⟩)
  · exact Or.inr (Or.inl ⟨_, _, _, _, rfl⟩)
  · exact Or.inr (Or.inl ⟨_, _, _, _, rfl⟩)
  · exact Or.inr (Or.inr (Or.inr ⟨_, _, rfl⟩))
  · exact Or.inr (Or.inr (Or.inr ⟨_, _, rfl⟩))
  · exact Or.inr (Or.inr (Or.inr ⟨_, _, rfl⟩))
  · exact Or.inr (Or.inr (Or.inr ⟨_, _, rfl⟩))
  · exact Or.inr (Or.inr (Or.inr ⟨_, _, rfl⟩))
  · exact Or.inr (Or.inr (Or.inr ⟨_, _, rfl⟩))
  · exact Or.inr (Or.inr (Or.inr ⟨_, _, rfl⟩))
theorem gn_0 : Cond.methodLinkNest "DigestBox" 9 ⟨"DigestBox$Row", "<init>", "()V"⟩ "DigestBox" ∈ gWarm := List.mem_of_getElem? (i := 0) rfl
theorem gn_1 : Cond.fieldLinkNest "DigestBox$Mac" 64 "DigestBox$Row" "bytes" "[B" "DigestBox" ∈ gWarm := List.mem_of_getElem? (i := 1) rfl
theorem gn_2 : Cond.fieldLinkNest "DigestBox" 79 "DigestBox$Row" "bytes" "[B" "DigestBox" ∈ gWarm := List.mem_of_getElem? (i := 2) rfl
theorem gn_3 : Cond.fieldLinkNest "DigestBox" 58 "DigestBox$Row" "length" "I" "DigestBox" ∈ gWarm := List.mem_of_getElem? (i := 3) rfl
theorem gn_4 : Cond.fieldLinkNest "DigestBox$Mac" 56 "DigestBox$Row" "length" "I" "DigestBox" ∈ gWarm := List.mem_of_getElem? (i := 4) rfl
theorem gn_5 : Cond.fieldLinkNest "DigestBox" 87 "DigestBox$Sha" "total" "J" "DigestBox" ∈ gWarm := List.mem_of_getElem? (i := 5) rfl
theorem gn_6 : Cond.fieldLinkNest "DigestBox$Mac" 36 "DigestBox$Sha" "blocks" "I" "DigestBox" ∈ gWarm := List.mem_of_getElem? (i := 6) rfl
theorem gn_7 : Cond.fieldLinkNest "DigestBox" 145 "DigestBox$Sha" "blocks" "I" "DigestBox" ∈ gWarm := List.mem_of_getElem? (i := 7) rfl
theorem gn_8 : Cond.fieldLinkNest "DigestBox" 91 "DigestBox$Mac" "sha" "LDigestBox$Sha;" "DigestBox" ∈ gWarm := List.mem_of_getElem? (i := 8) rfl
theorem gn_9 : Cond.methodLinkNest "DigestBox" 109 ⟨"DigestBox$Row", "becomeCopyOf", "(LDigestBox$Row;)V"⟩ "DigestBox" ∈ gWarm := List.mem_of_getElem? (i := 9) rfl
theorem gn_10 : Cond.declares ⟨"java/lang/RuntimeException", "<init>", "()V"⟩ ∈ gWarm := List.mem_of_getElem? (i := 10) rfl
theorem gn_11 : Cond.declares ⟨"java/lang/RuntimeException", "<init>", "(Ljava/lang/String;)V"⟩ ∈ gWarm := List.mem_of_getElem? (i := 11) rfl
theorem gn_12 : Cond.declares ⟨"java/lang/Exception", "<init>", "()V"⟩ ∈ gWarm := List.mem_of_getElem? (i := 12) rfl
theorem gn_13 : Cond.declares ⟨"java/lang/Exception", "<init>", "(Ljava/lang/String;)V"⟩ ∈ gWarm := List.mem_of_getElem? (i := 13) rfl
theorem gn_14 : Cond.declares ⟨"java/lang/Throwable", "<init>", "()V"⟩ ∈ gWarm := List.mem_of_getElem? (i := 14) rfl
theorem gn_15 : Cond.declares ⟨"java/lang/Throwable", "<init>", "(Ljava/lang/String;)V"⟩ ∈ gWarm := List.mem_of_getElem? (i := 15) rfl
theorem gn_16 : Cond.methodLinkNest "DigestBox" 66 ⟨"DigestBox$Row", "appendNumber", "(I)V"⟩ "DigestBox" ∈ gWarm := List.mem_of_getElem? (i := 16) rfl
theorem gn_17 : Cond.methodLinkNest "DigestBox" 76 ⟨"DigestBox$Sha", "begin", "()V"⟩ "DigestBox" ∈ gWarm := List.mem_of_getElem? (i := 17) rfl
theorem gn_18 : Cond.methodLinkNest "DigestBox" 83 ⟨"DigestBox$Sha", "take", "([BII)V"⟩ "DigestBox" ∈ gWarm := List.mem_of_getElem? (i := 18) rfl
theorem gn_19 : Cond.declares ⟨"DigestBox$Sha", "fillSchedule", "()V"⟩ ∈ gWarm := List.mem_of_getElem? (i := 19) rfl
theorem gn_20 : Cond.declares ⟨"DigestBox$Sha", "mixSchedule", "()V"⟩ ∈ gWarm := List.mem_of_getElem? (i := 20) rfl
theorem gn_21 : Cond.methodLinkNest "DigestBox" 95 ⟨"DigestBox$Sha", "becomeCopyOf", "(LDigestBox$Sha;)V"⟩ "DigestBox" ∈ gWarm := List.mem_of_getElem? (i := 21) rfl
theorem gn_22 : Cond.methodLinkNest "DigestBox" 148 ⟨"DigestBox$Row", "makeRoom", "(I)V"⟩ "DigestBox" ∈ gWarm := List.mem_of_getElem? (i := 22) rfl
theorem gn_23 : Cond.methodLinkNest "DigestBox" 105 ⟨"DigestBox$Sha", "close", "([BI)V"⟩ "DigestBox" ∈ gWarm := List.mem_of_getElem? (i := 23) rfl
theorem gn_24 : Cond.methodLinkNest "DigestBox" 112 ⟨"DigestBox$Mac", "setKey", "(LDigestBox$Row;)V"⟩ "DigestBox" ∈ gWarm := List.mem_of_getElem? (i := 24) rfl
theorem gn_25 : Cond.methodLinkNest "DigestBox$Mac" 61 ⟨"DigestBox$Sha", "begin", "()V"⟩ "DigestBox" ∈ gWarm := List.mem_of_getElem? (i := 25) rfl
theorem gn_26 : Cond.methodLinkNest "DigestBox$Mac" 67 ⟨"DigestBox$Sha", "take", "([BII)V"⟩ "DigestBox" ∈ gWarm := List.mem_of_getElem? (i := 26) rfl
theorem gn_27 : Cond.methodLinkNest "DigestBox$Mac" 71 ⟨"DigestBox$Sha", "close", "([BI)V"⟩ "DigestBox" ∈ gWarm := List.mem_of_getElem? (i := 27) rfl
theorem gn_28 : Cond.methodLinkNest "DigestBox$Mac" 81 ⟨"DigestBox$Sha", "takeByte", "(I)V"⟩ "DigestBox" ∈ gWarm := List.mem_of_getElem? (i := 28) rfl
theorem gn_29 : Cond.methodLinkNest "DigestBox" 115 ⟨"DigestBox$Mac", "beginText", "()V"⟩ "DigestBox" ∈ gWarm := List.mem_of_getElem? (i := 29) rfl
theorem gn_30 : Cond.methodLinkNest "DigestBox$Mac" 88 ⟨"DigestBox$Sha", "resume", "([JI)V"⟩ "DigestBox" ∈ gWarm := List.mem_of_getElem? (i := 30) rfl
theorem gn_31 : Cond.methodLinkNest "DigestBox" 118 ⟨"DigestBox$Mac", "closeText", "([BI)V"⟩ "DigestBox" ∈ gWarm := List.mem_of_getElem? (i := 31) rfl
theorem gn_32 : Cond.methodLinkNest "DigestBox" 160 ⟨"DigestBox$Sha", "takeByte", "(I)V"⟩ "DigestBox" ∈ gWarm := List.mem_of_getElem? (i := 32) rfl
theorem gn_33 : Cond.methodLinkNest "DigestBox" 151 ⟨"DigestBox$Row", "appendByte", "(I)V"⟩ "DigestBox" ∈ gWarm := List.mem_of_getElem? (i := 33) rfl
theorem gn_34 : Cond.methodLinkNest "DigestBox" 157 ⟨"DigestBox$Row", "append", "([BII)V"⟩ "DigestBox" ∈ gWarm := List.mem_of_getElem? (i := 34) rfl
theorem gn_35 : Cond.castable "java/lang/IllegalStateException" "java/lang/IllegalStateException" ∈ gWarm := List.mem_of_getElem? (i := 35) rfl
theorem gn_36 : Cond.castable "java/lang/IllegalArgumentException" "java/lang/IllegalArgumentException" ∈ gWarm := List.mem_of_getElem? (i := 36) rfl
theorem gn_37 : Cond.castable "java/util/NoSuchElementException" "java/util/NoSuchElementException" ∈ gWarm := List.mem_of_getElem? (i := 37) rfl
theorem gn_38 : Cond.castable "java/lang/IndexOutOfBoundsException" "java/lang/IndexOutOfBoundsException" ∈ gWarm := List.mem_of_getElem? (i := 38) rfl
theorem gn_39 : Cond.castable "java/lang/ArrayIndexOutOfBoundsException" "java/lang/IndexOutOfBoundsException" ∈ gWarm := List.mem_of_getElem? (i := 39) rfl
theorem gn_40 : Cond.castable "DigestBox$NarrowSha" "DigestBox$Sha" ∈ gWarm := List.mem_of_getElem? (i := 40) rfl
theorem gn_41 : Cond.castable "DigestBox$WideSha" "DigestBox$Sha" ∈ gWarm := List.mem_of_getElem? (i := 41) rfl
theorem in_Mc : ∀ w ∈ u_ws R_Mc T_Mc 6, w ∈ GT := by
  intro w h
  obtain ⟨j, hj, rfl⟩ := List.mem_map.mp h
  have hj := List.mem_range.mp hj
  match j, hj with
  | 0, _ => exact gm_161
  | 1, _ => exact gm_162
  | 2, _ => exact gm_163
  | 3, _ => exact gm_164
  | 4, _ => exact gm_165
  | 5, _ => exact gm_166
  | j + 6, hj => exact absurd hj (by omega)
theorem in_Ns : ∀ w ∈ u_ws R_Ns T_Ns 9, w ∈ GT := by
  intro w h
  obtain ⟨j, hj, rfl⟩ := List.mem_map.mp h
  have hj := List.mem_range.mp hj
  match j, hj with
  | 0, _ => exact gm_121
  | 1, _ => exact gm_122
  | 2, _ => exact gm_123
  | 3, _ => exact gm_124
  | 4, _ => exact gm_125
  | 5, _ => exact gm_126
  | 6, _ => exact gm_127
  | 7, _ => exact gm_128
  | 8, _ => exact gm_120
  | j + 9, hj => exact absurd hj (by omega)
theorem in_Rw : ∀ w ∈ u_ws R_Rw T_Rw 2, w ∈ GT := by
  intro w h
  obtain ⟨j, hj, rfl⟩ := List.mem_map.mp h
  have hj := List.mem_range.mp hj
  match j, hj with
  | 0, _ => exact gm_82
  | 1, _ => exact gm_83
  | j + 2, hj => exact absurd hj (by omega)
theorem in_Ws : ∀ w ∈ u_ws R_Ws T_Ws 9, w ∈ GT := by
  intro w h
  obtain ⟨j, hj, rfl⟩ := List.mem_map.mp h
  have hj := List.mem_range.mp hj
  match j, hj with
  | 0, _ => exact gm_140
  | 1, _ => exact gm_141
  | 2, _ => exact gm_142
  | 3, _ => exact gm_143
  | 4, _ => exact gm_144
  | 5, _ => exact gm_145
  | 6, _ => exact gm_146
  | 7, _ => exact gm_147
  | 8, _ => exact gm_139
  | j + 9, hj => exact absurd hj (by omega)
theorem in_Bx : ∀ w ∈ u_ws R_Bx T_Bx 6, w ∈ GT := by
  intro w h
  obtain ⟨j, hj, rfl⟩ := List.mem_map.mp h
  have hj := List.mem_range.mp hj
  match j, hj with
  | 0, _ => exact gm_173
  | 1, _ => exact gm_174
  | 2, _ => exact gm_175
  | 3, _ => exact gm_176
  | 4, _ => exact gm_177
  | 5, _ => exact gm_178
  | j + 6, hj => exact absurd hj (by omega)
theorem in_Md : ∀ w ∈ u_ws R_Md T_Md 21, w ∈ GT := by
  intro w h
  obtain ⟨j, hj, rfl⟩ := List.mem_map.mp h
  have hj := List.mem_range.mp hj
  match j, hj with
  | 0, _ => exact gm_546
  | 1, _ => exact gm_547
  | 2, _ => exact gm_548
  | 3, _ => exact gm_549
  | 4, _ => exact gm_550
  | 5, _ => exact gm_551
  | 6, _ => exact gm_552
  | 7, _ => exact gm_553
  | 8, _ => exact gm_554
  | 9, _ => exact gm_555
  | 10, _ => exact gm_556
  | 11, _ => exact gm_557
  | 12, _ => exact gm_558
  | 13, _ => exact gm_559
  | 14, _ => exact gm_560
  | 15, _ => exact gm_561
  | 16, _ => exact gm_562
  | 17, _ => exact gm_563
  | 18, _ => exact gm_564
  | 19, _ => exact gm_565
  | 20, _ => exact gm_566
  | j + 21, hj => exact absurd hj (by omega)
