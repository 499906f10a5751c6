def RX0 : String := "FeedTower$App"
def TX0 : u_T := fun k => match k with
  | 0 => ("FeedTower$App", "show", "I", true)
  | 1 => ("FeedTower$App", "toldItems", "Ljava/util/ArrayList;", true)
  | _ => ("FeedTower$App", "changesSeen", "I", false)
def tyX0 : Nat → FieldType := fun k => match k with
  | 0 => .int
  | 1 => .object "java/util/ArrayList"
  | _ => .int
theorem nmX0 : ∀ a, a < 3 → ∀ b, b < 3 → a ≠ b → (TX0 a).2.1 ≠ (TX0 b).2.1 := by decide +kernel
theorem tyX0_ok : ∀ k, k < 3 → parseFieldDescriptor (TX0 k).2.2.1 = some (tyX0 k) := by decide +kernel
abbrev cX0_init : ByteArray := prog_2_method_1_code
def yX0_init : MethodName := ⟨RX0, "<init>", "(I)V"⟩
def RX1 : String := "FeedTower$Campaign"
def TX1 : u_T := fun k => match k with
  | 0 => ("FeedTower$Campaign", "place", "I", true)
  | 1 => ("FeedTower$Campaign", "group", "I", true)
  | 2 => ("FeedTower$Campaign", "seconds", "I", true)
  | 3 => ("FeedTower$Campaign", "from", "I", true)
  | 4 => ("FeedTower$Campaign", "to", "I", true)
  | 5 => ("FeedTower$Campaign", "many", "I", true)
  | 6 => ("FeedTower$Campaign", "daily", "I", true)
  | 7 => ("FeedTower$Campaign", "number", "I", false)
  | _ => ("FeedTower$Campaign", "adsPutIn", "I", false)
def tyX1 : Nat → FieldType := fun k => match k with
  | 0 => .int
  | 1 => .int
  | 2 => .int
  | 3 => .int
  | 4 => .int
  | 5 => .int
  | 6 => .int
  | 7 => .int
  | _ => .int
theorem nmX1 : ∀ a, a < 9 → ∀ b, b < 9 → a ≠ b → (TX1 a).2.1 ≠ (TX1 b).2.1 := by decide +kernel
theorem tyX1_ok : ∀ k, k < 9 → parseFieldDescriptor (TX1 k).2.2.1 = some (tyX1 k) := by decide +kernel
abbrev cX1_init : ByteArray := prog_3_method_1_code
def yX1_init : MethodName := ⟨RX1, "<init>", "(IIIIIII)V"⟩
abbrev cX1_dueIn : ByteArray := prog_3_method_2_code
def yX1_dueIn : MethodName := ⟨RX1, "dueIn", "(I)I"⟩
def RX2 : String := "FeedTower$Download"
def TX2 : u_T := fun k => match k with
  | 0 => ("FeedTower$Download", "number", "I", true)
  | 1 => ("FeedTower$Download", "listener", "I", true)
  | 2 => ("FeedTower$Download", "item", "I", true)
  | 3 => ("FeedTower$Download", "hour", "I", true)
  | 4 => ("FeedTower$Download", "pieces", "Ljava/util/ArrayList;", true)
  | 5 => ("FeedTower$Download", "log", "Ljava/util/ArrayList;", true)
  | 6 => ("FeedTower$Download", "seconds", "I", false)
  | 7 => ("FeedTower$Download", "loaded", "I", false)
  | 8 => ("FeedTower$Download", "campaignsIn", "I", false)
  | _ => ("FeedTower$Download", "groupsIn", "I", false)
def tyX2 : Nat → FieldType := fun k => match k with
  | 0 => .int
  | 1 => .int
  | 2 => .int
  | 3 => .int
  | 4 => .object "java/util/ArrayList"
  | 5 => .object "java/util/ArrayList"
  | 6 => .int
  | 7 => .int
  | 8 => .int
  | _ => .int
theorem nmX2 : ∀ a, a < 10 → ∀ b, b < 10 → a ≠ b → (TX2 a).2.1 ≠ (TX2 b).2.1 := by decide +kernel
theorem tyX2_ok : ∀ k, k < 10 → parseFieldDescriptor (TX2 k).2.2.1 = some (tyX2 k) := by decide +kernel
abbrev cX2_init : ByteArray := prog_4_method_1_code
def yX2_init : MethodName := ⟨RX2, "<init>", "(IIII)V"⟩
abbrev cX2_isOf : ByteArray := prog_4_method_2_code
def yX2_isOf : MethodName := ⟨RX2, "isOf", "(II)Z"⟩
abbrev cX2_addPiece : ByteArray := prog_4_method_3_code
def yX2_addPiece : MethodName := ⟨RX2, "addPiece", "(LFeedTower$Part;III)V"⟩
abbrev cX2_addRange : ByteArray := prog_4_method_4_code
def yX2_addRange : MethodName := ⟨RX2, "addRange", "(II)V"⟩
abbrev cX2_loadedIn : ByteArray := prog_4_method_5_code
def yX2_loadedIn : MethodName := ⟨RX2, "loadedIn", "(II)I"⟩
abbrev cX2_loadedUntil : ByteArray := prog_4_method_6_code
def yX2_loadedUntil : MethodName := ⟨RX2, "loadedUntil", "(I)I"⟩
abbrev cX2_nextRangeBehind : ByteArray := prog_4_method_7_code
def yX2_nextRangeBehind : MethodName := ⟨RX2, "nextRangeBehind", "(II)I"⟩
abbrev cX2_lastLoadedIn : ByteArray := prog_4_method_8_code
def yX2_lastLoadedIn : MethodName := ⟨RX2, "lastLoadedIn", "(II)I"⟩
abbrev cX2_isLoadedEnough : ByteArray := prog_4_method_9_code
def yX2_isLoadedEnough : MethodName := ⟨RX2, "isLoadedEnough", "()Z"⟩
abbrev cX2_hasWholeAd : ByteArray := prog_4_method_10_code
def yX2_hasWholeAd : MethodName := ⟨RX2, "hasWholeAd", "(I)Z"⟩
abbrev cX2_hasLoadedUntoldCut : ByteArray := prog_4_method_11_code
def yX2_hasLoadedUntoldCut : MethodName := ⟨RX2, "hasLoadedUntoldCut", "()Z"⟩
abbrev cX2_reach : ByteArray := prog_4_method_12_code
def yX2_reach : MethodName := ⟨RX2, "reach", "()I"⟩
abbrev cX2_secondBehind : ByteArray := prog_4_method_13_code
def yX2_secondBehind : MethodName := ⟨RX2, "secondBehind", "(I)I"⟩
def RX3 : String := "FeedTower$Item"
def TX3 : u_T := fun k => match k with
  | 0 => ("FeedTower$Item", "number", "I", true)
  | 1 => ("FeedTower$Item", "show", "I", true)
  | 2 => ("FeedTower$Item", "hour", "I", true)
  | 3 => ("FeedTower$Item", "parts", "Ljava/util/ArrayList;", true)
  | _ => ("FeedTower$Item", "isWithdrawn", "Z", false)
def tyX3 : Nat → FieldType := fun k => match k with
  | 0 => .int
  | 1 => .int
  | 2 => .int
  | 3 => .object "java/util/ArrayList"
  | _ => .boolean
theorem nmX3 : ∀ a, a < 5 → ∀ b, b < 5 → a ≠ b → (TX3 a).2.1 ≠ (TX3 b).2.1 := by decide +kernel
theorem tyX3_ok : ∀ k, k < 5 → parseFieldDescriptor (TX3 k).2.2.1 = some (tyX3 k) := by decide +kernel
abbrev cX3_init : ByteArray := prog_5_method_1_code
def yX3_init : MethodName := ⟨RX3, "<init>", "(IIILjava/util/ArrayList;)V"⟩
abbrev cX3_partAt : ByteArray := prog_5_method_2_code
def yX3_partAt : MethodName := ⟨RX3, "partAt", "(I)LFeedTower$Part;"⟩
abbrev cX3_uncutParts : ByteArray := prog_5_method_3_code
def yX3_uncutParts : MethodName := ⟨RX3, "uncutParts", "()I"⟩
abbrev cX3_uncutSeconds : ByteArray := prog_5_method_4_code
def yX3_uncutSeconds : MethodName := ⟨RX3, "uncutSeconds", "()I"⟩
def RX4 : String := "FeedTower$Part"
def TX4 : u_T := fun k => match k with
  | 0 => ("FeedTower$Part", "kind", "I", true)
  | 1 => ("FeedTower$Part", "seconds", "I", true)
  | 2 => ("FeedTower$Part", "songOrPlace", "I", true)
  | 3 => ("FeedTower$Part", "isCut", "Z", false)
  | _ => ("FeedTower$Part", "listenersTold", "I", false)
def tyX4 : Nat → FieldType := fun k => match k with
  | 0 => .int
  | 1 => .int
  | 2 => .int
  | 3 => .boolean
  | _ => .int
theorem nmX4 : ∀ a, a < 5 → ∀ b, b < 5 → a ≠ b → (TX4 a).2.1 ≠ (TX4 b).2.1 := by decide +kernel
theorem tyX4_ok : ∀ k, k < 5 → parseFieldDescriptor (TX4 k).2.2.1 = some (tyX4 k) := by decide +kernel
abbrev cX4_init : ByteArray := prog_6_method_1_code
def yX4_init : MethodName := ⟨RX4, "<init>", "(III)V"⟩
def RX5 : String := "FeedTower$Piece"
def TX5 : u_T := fun k => match k with
  | 0 => ("FeedTower$Piece", "part", "LFeedTower$Part;", true)
  | 1 => ("FeedTower$Piece", "number", "I", true)
  | 2 => ("FeedTower$Piece", "start", "I", true)
  | 3 => ("FeedTower$Piece", "end", "I", true)
  | _ => ("FeedTower$Piece", "campaign", "I", true)
def tyX5 : Nat → FieldType := fun k => match k with
  | 0 => .object "FeedTower$Part"
  | 1 => .int
  | 2 => .int
  | 3 => .int
  | _ => .int
theorem nmX5 : ∀ a, a < 5 → ∀ b, b < 5 → a ≠ b → (TX5 a).2.1 ≠ (TX5 b).2.1 := by decide +kernel
theorem tyX5_ok : ∀ k, k < 5 → parseFieldDescriptor (TX5 k).2.2.1 = some (tyX5 k) := by decide +kernel
abbrev cX5_init : ByteArray := prog_7_method_1_code
def yX5_init : MethodName := ⟨RX5, "<init>", "(LFeedTower$Part;IIII)V"⟩
def RX6 : String := "FeedTower$Range"
def TX6 : u_T := fun k => match k with
  | 0 => ("FeedTower$Range", "from", "I", true)
  | _ => ("FeedTower$Range", "to", "I", true)
def tyX6 : Nat → FieldType := fun k => match k with
  | 0 => .int
  | _ => .int
theorem nmX6 : ∀ a, a < 2 → ∀ b, b < 2 → a ≠ b → (TX6 a).2.1 ≠ (TX6 b).2.1 := by decide +kernel
theorem tyX6_ok : ∀ k, k < 2 → parseFieldDescriptor (TX6 k).2.2.1 = some (tyX6 k) := by decide +kernel
abbrev cX6_init : ByteArray := prog_8_method_1_code
def yX6_init : MethodName := ⟨RX6, "<init>", "(II)V"⟩
def RX7 : String := "FeedTower"
def TX7 : u_T := fun k => match k with
  | 0 => ("FeedTower", "items", "Ljava/util/ArrayList;", true)
  | 1 => ("FeedTower", "changes", "Ljava/util/ArrayList;", true)
  | 2 => ("FeedTower", "apps", "Ljava/util/ArrayList;", true)
  | 3 => ("FeedTower", "campaigns", "Ljava/util/ArrayList;", true)
  | 4 => ("FeedTower", "downloads", "Ljava/util/ArrayList;", true)
  | 5 => ("FeedTower", "draft", "Ljava/util/ArrayList;", false)
  | 6 => ("FeedTower", "now", "I", false)
  | 7 => ("FeedTower", "songsOut", "I", false)
  | 8 => ("FeedTower", "bots", "I", false)
  | _ => ("FeedTower", "ranges", "I", false)
def tyX7 : Nat → FieldType := fun k => match k with
  | 0 => .object "java/util/ArrayList"
  | 1 => .object "java/util/ArrayList"
  | 2 => .object "java/util/ArrayList"
  | 3 => .object "java/util/ArrayList"
  | 4 => .object "java/util/ArrayList"
  | 5 => .object "java/util/ArrayList"
  | 6 => .int
  | 7 => .int
  | 8 => .int
  | _ => .int
theorem nmX7 : ∀ a, a < 10 → ∀ b, b < 10 → a ≠ b → (TX7 a).2.1 ≠ (TX7 b).2.1 := by decide +kernel
theorem tyX7_ok : ∀ k, k < 10 → parseFieldDescriptor (TX7 k).2.2.1 = some (tyX7 k) := by decide +kernel
abbrev cX7_init : ByteArray := prog_1_method_1_code
def yX7_init : MethodName := ⟨RX7, "<init>", "()V"⟩
abbrev cX7_talk : ByteArray := prog_1_method_2_code
def yX7_talk : MethodName := ⟨RX7, "talk", "(I)I"⟩
abbrev cX7_music : ByteArray := prog_1_method_3_code
def yX7_music : MethodName := ⟨RX7, "music", "(II)I"⟩
abbrev cX7_slot : ByteArray := prog_1_method_4_code
def yX7_slot : MethodName := ⟨RX7, "slot", "(I)I"⟩
abbrev cX7_item : ByteArray := prog_1_method_5_code
def yX7_item : MethodName := ⟨RX7, "item", "(II)I"⟩
abbrev cX7_cut : ByteArray := prog_1_method_6_code
def yX7_cut : MethodName := ⟨RX7, "cut", "(II)I"⟩
abbrev cX7_withdraw : ByteArray := prog_1_method_7_code
def yX7_withdraw : MethodName := ⟨RX7, "withdraw", "(I)V"⟩
abbrev cX7_songOut : ByteArray := prog_1_method_8_code
def yX7_songOut : MethodName := ⟨RX7, "songOut", "(I)I"⟩
abbrev cX7_pass : ByteArray := prog_1_method_9_code
def yX7_pass : MethodName := ⟨RX7, "pass", "(I)I"⟩
abbrev cX7_app : ByteArray := prog_1_method_10_code
def yX7_app : MethodName := ⟨RX7, "app", "(I)I"⟩
abbrev cX7_poll : ByteArray := prog_1_method_11_code
def yX7_poll : MethodName := ⟨RX7, "poll", "(I)I"⟩
abbrev cX7_campaign : ByteArray := prog_1_method_12_code
def yX7_campaign : MethodName := ⟨RX7, "campaign", "(IIIIIII)I"⟩
abbrev cX7_ask : ByteArray := prog_1_method_13_code
def yX7_ask : MethodName := ⟨RX7, "ask", "(II)I"⟩
abbrev cX7_load : ByteArray := prog_1_method_14_code
def yX7_load : MethodName := ⟨RX7, "load", "(III)I"⟩
abbrev cX7_bot : ByteArray := prog_1_method_15_code
def yX7_bot : MethodName := ⟨RX7, "bot", "(IZ)Z"⟩
abbrev cX7_tell : ByteArray := prog_1_method_16_code
def yX7_tell : MethodName := ⟨RX7, "tell", "(II)Z"⟩
abbrev cX7_hour : ByteArray := prog_1_method_17_code
def yX7_hour : MethodName := ⟨RX7, "hour", "()I"⟩
abbrev cX7_ofItem : ByteArray := prog_1_method_18_code
def yX7_ofItem : MethodName := ⟨RX7, "ofItem", "(II)I"⟩
abbrev cX7_ofPart : ByteArray := prog_1_method_19_code
def yX7_ofPart : MethodName := ⟨RX7, "ofPart", "(III)I"⟩
abbrev cX7_told : ByteArray := prog_1_method_20_code
def yX7_told : MethodName := ⟨RX7, "told", "(II)I"⟩
abbrev cX7_ofCampaign : ByteArray := prog_1_method_21_code
def yX7_ofCampaign : MethodName := ⟨RX7, "ofCampaign", "(II)I"⟩
abbrev cX7_ofDownload : ByteArray := prog_1_method_22_code
def yX7_ofDownload : MethodName := ⟨RX7, "ofDownload", "(II)I"⟩
abbrev cX7_ad : ByteArray := prog_1_method_23_code
def yX7_ad : MethodName := ⟨RX7, "ad", "(II)I"⟩
abbrev cX7_loadedAnew : ByteArray := prog_1_method_24_code
def yX7_loadedAnew : MethodName := ⟨RX7, "loadedAnew", "(I)I"⟩
abbrev cX7_counts : ByteArray := prog_1_method_25_code
def yX7_counts : MethodName := ⟨RX7, "counts", "(II)Z"⟩
abbrev cX7_count : ByteArray := prog_1_method_26_code
def yX7_count : MethodName := ⟨RX7, "count", "(II)I"⟩
abbrev cX7_isOwed : ByteArray := prog_1_method_27_code
def yX7_isOwed : MethodName := ⟨RX7, "isOwed", "(II)Z"⟩
abbrev cX7_isIn : ByteArray := prog_1_method_28_code
def yX7_isIn : MethodName := ⟨RX7, "isIn", "(III)Z"⟩
abbrev cX7_hasBit : ByteArray := prog_1_method_29_code
def yX7_hasBit : MethodName := ⟨RX7, "hasBit", "(II)Z"⟩
abbrev cX7_withBit : ByteArray := prog_1_method_30_code
def yX7_withBit : MethodName := ⟨RX7, "withBit", "(II)I"⟩
abbrev cX7_needShow : ByteArray := prog_1_method_31_code
def yX7_needShow : MethodName := ⟨RX7, "needShow", "(I)V"⟩
abbrev cX7_needSong : ByteArray := prog_1_method_32_code
def yX7_needSong : MethodName := ⟨RX7, "needSong", "(I)V"⟩
abbrev cX7_needListener : ByteArray := prog_1_method_33_code
def yX7_needListener : MethodName := ⟨RX7, "needListener", "(I)V"⟩
abbrev cX7_needRule : ByteArray := prog_1_method_34_code
def yX7_needRule : MethodName := ⟨RX7, "needRule", "(I)V"⟩
abbrev cX7_itemAt : ByteArray := prog_1_method_35_code
def yX7_itemAt : MethodName := ⟨RX7, "itemAt", "(I)LFeedTower$Item;"⟩
abbrev cX7_appAt : ByteArray := prog_1_method_36_code
def yX7_appAt : MethodName := ⟨RX7, "appAt", "(I)LFeedTower$App;"⟩
abbrev cX7_campaignAt : ByteArray := prog_1_method_37_code
def yX7_campaignAt : MethodName := ⟨RX7, "campaignAt", "(I)LFeedTower$Campaign;"⟩
abbrev cX7_downloadAt : ByteArray := prog_1_method_38_code
def yX7_downloadAt : MethodName := ⟨RX7, "downloadAt", "(I)LFeedTower$Download;"⟩
abbrev cX7_addToDraft : ByteArray := prog_1_method_39_code
def yX7_addToDraft : MethodName := ⟨RX7, "addToDraft", "(LFeedTower$Part;)I"⟩
abbrev cX7_isOut : ByteArray := prog_1_method_40_code
def yX7_isOut : MethodName := ⟨RX7, "isOut", "(LFeedTower$Part;)Z"⟩
abbrev cX7_isDraftOfUse : ByteArray := prog_1_method_41_code
def yX7_isDraftOfUse : MethodName := ⟨RX7, "isDraftOfUse", "()Z"⟩
abbrev cX7_cutWhatIsOut : ByteArray := prog_1_method_42_code
def yX7_cutWhatIsOut : MethodName := ⟨RX7, "cutWhatIsOut", "(LFeedTower$Item;)I"⟩
abbrev cX7_isReleased : ByteArray := prog_1_method_43_code
def yX7_isReleased : MethodName := ⟨RX7, "isReleased", "(LFeedTower$Item;)Z"⟩
abbrev cX7_noteChange : ByteArray := prog_1_method_44_code
def yX7_noteChange : MethodName := ⟨RX7, "noteChange", "(LFeedTower$Item;)V"⟩
abbrev cX7_releaseItemsOfThisHour : ByteArray := prog_1_method_45_code
def yX7_releaseItemsOfThisHour : MethodName := ⟨RX7, "releaseItemsOfThisHour", "()V"⟩
abbrev cX7_addToDownload : ByteArray := prog_1_method_46_code
def yX7_addToDownload : MethodName := ⟨RX7, "addToDownload", "(LFeedTower$Download;LFeedTower$Part;I)V"⟩
abbrev cX7_adFor : ByteArray := prog_1_method_47_code
def yX7_adFor : MethodName := ⟨RX7, "adFor", "(LFeedTower$Download;I)LFeedTower$Campaign;"⟩
abbrev cX7_isAllowed : ByteArray := prog_1_method_48_code
def yX7_isAllowed : MethodName := ⟨RX7, "isAllowed", "(LFeedTower$Campaign;LFeedTower$Download;)Z"⟩
abbrev cX7_adsToday : ByteArray := prog_1_method_49_code
def yX7_adsToday : MethodName := ⟨RX7, "adsToday", "(II)I"⟩
abbrev cX7_adsHeard : ByteArray := prog_1_method_50_code
def yX7_adsHeard : MethodName := ⟨RX7, "adsHeard", "(LFeedTower$Campaign;)I"⟩
abbrev cX7_downloadsOf : ByteArray := prog_1_method_51_code
def yX7_downloadsOf : MethodName := ⟨RX7, "downloadsOf", "(I)I"⟩
abbrev cX7_isCounted : ByteArray := prog_1_method_52_code
def yX7_isCounted : MethodName := ⟨RX7, "isCounted", "(LFeedTower$Download;I)Z"⟩
abbrev cX7_isCountedStrictly : ByteArray := prog_1_method_53_code
def yX7_isCountedStrictly : MethodName := ⟨RX7, "isCountedStrictly", "(LFeedTower$Download;)Z"⟩
abbrev cX7_reach : ByteArray := prog_1_method_54_code
def yX7_reach : MethodName := ⟨RX7, "reach", "(II)I"⟩
abbrev cX7_wantsCorrection : ByteArray := prog_1_method_55_code
def yX7_wantsCorrection : MethodName := ⟨RX7, "wantsCorrection", "(II)Z"⟩
def RX8 : String := "FeedTowerModel"
def TX8 : u_T := fun k => match k with
  | 0 => ("FeedTowerModel", "hour", "I", false)
  | 1 => ("FeedTowerModel", "drafted", "I", false)
  | 2 => ("FeedTowerModel", "draftKind", "[I", true)
  | 3 => ("FeedTowerModel", "draftSeconds", "[I", true)
  | 4 => ("FeedTowerModel", "draftWhat", "[I", true)
  | 5 => ("FeedTowerModel", "isOut", "[Z", true)
  | 6 => ("FeedTowerModel", "items", "I", false)
  | 7 => ("FeedTowerModel", "show", "[I", true)
  | 8 => ("FeedTowerModel", "releaseHour", "[I", true)
  | 9 => ("FeedTowerModel", "isReleased", "[Z", true)
  | 10 => ("FeedTowerModel", "isWithdrawn", "[Z", true)
  | 11 => ("FeedTowerModel", "parts", "[I", true)
  | 12 => ("FeedTowerModel", "kind", "[I", true)
  | 13 => ("FeedTowerModel", "seconds", "[I", true)
  | 14 => ("FeedTowerModel", "what", "[I", true)
  | 15 => ("FeedTowerModel", "isCut", "[Z", true)
  | 16 => ("FeedTowerModel", "changes", "I", false)
  | 17 => ("FeedTowerModel", "changed", "[I", true)
  | 18 => ("FeedTowerModel", "apps", "I", false)
  | 19 => ("FeedTowerModel", "appShow", "[I", true)
  | 20 => ("FeedTowerModel", "polledUpTo", "[I", true)
  | 21 => ("FeedTowerModel", "toldMany", "[I", true)
  | 22 => ("FeedTowerModel", "toldItem", "[I", true)
  | 23 => ("FeedTowerModel", "campaigns", "I", false)
  | 24 => ("FeedTowerModel", "place", "[I", true)
  | 25 => ("FeedTowerModel", "group", "[I", true)
  | 26 => ("FeedTowerModel", "adSeconds", "[I", true)
  | 27 => ("FeedTowerModel", "from", "[I", true)
  | 28 => ("FeedTowerModel", "to", "[I", true)
  | 29 => ("FeedTowerModel", "wanted", "[I", true)
  | 30 => ("FeedTowerModel", "daily", "[I", true)
  | 31 => ("FeedTowerModel", "put", "[I", true)
  | 32 => ("FeedTowerModel", "isBot", "[Z", true)
  | 33 => ("FeedTowerModel", "isTold", "[Z", true)
  | 34 => ("FeedTowerModel", "downloads", "I", false)
  | 35 => ("FeedTowerModel", "listener", "[I", true)
  | 36 => ("FeedTowerModel", "item", "[I", true)
  | 37 => ("FeedTowerModel", "asked", "[I", true)
  | 38 => ("FeedTowerModel", "pieces", "[I", true)
  | 39 => ("FeedTowerModel", "length", "[I", true)
  | 40 => ("FeedTowerModel", "pieceOf", "[I", true)
  | 41 => ("FeedTowerModel", "adOf", "[I", true)
  | 42 => ("FeedTowerModel", "loadedMany", "[I", true)
  | 43 => ("FeedTowerModel", "isLoaded", "[Z", true)
  | 44 => ("FeedTowerModel", "isStrict", "[Z", true)
  | 45 => ("FeedTowerModel", "ranges", "I", false)
  | 46 => ("FeedTowerModel", "rangeOf", "[I", true)
  | 47 => ("FeedTowerModel", "rangeFrom", "[I", true)
  | 48 => ("FeedTowerModel", "rangeTo", "[I", true)
  | _ => ("FeedTowerModel", "thrown", "I", false)
def tyX8 : Nat → FieldType := fun k => match k with
  | 0 => .int
  | 1 => .int
  | 2 => .array .int
  | 3 => .array .int
  | 4 => .array .int
  | 5 => .array .boolean
  | 6 => .int
  | 7 => .array .int
  | 8 => .array .int
  | 9 => .array .boolean
  | 10 => .array .boolean
  | 11 => .array .int
  | 12 => .array .int
  | 13 => .array .int
  | 14 => .array .int
  | 15 => .array .boolean
  | 16 => .int
  | 17 => .array .int
  | 18 => .int
  | 19 => .array .int
  | 20 => .array .int
  | 21 => .array .int
  | 22 => .array .int
  | 23 => .int
  | 24 => .array .int
  | 25 => .array .int
  | 26 => .array .int
  | 27 => .array .int
  | 28 => .array .int
  | 29 => .array .int
  | 30 => .array .int
  | 31 => .array .int
  | 32 => .array .boolean
  | 33 => .array .boolean
  | 34 => .int
  | 35 => .array .int
  | 36 => .array .int
  | 37 => .array .int
  | 38 => .array .int
  | 39 => .array .int
  | 40 => .array .int
  | 41 => .array .int
  | 42 => .array .int
  | 43 => .array .boolean
  | 44 => .array .boolean
  | 45 => .int
  | 46 => .array .int
  | 47 => .array .int
  | 48 => .array .int
  | _ => .int
theorem nmX8 : ∀ a, a < 50 → ∀ b, b < 50 → a ≠ b → (TX8 a).2.1 ≠ (TX8 b).2.1 := by decide +kernel
theorem tyX8_ok : ∀ k, k < 50 → parseFieldDescriptor (TX8 k).2.2.1 = some (tyX8 k) := by decide +kernel
abbrev cX8_init : ByteArray := prog_10_method_1_code
def yX8_init : MethodName := ⟨RX8, "<init>", "()V"⟩
abbrev cX8_thrown : ByteArray := prog_10_method_2_code
def yX8_thrown : MethodName := ⟨RX8, "thrown", "()I"⟩
abbrev cX8_in : ByteArray := prog_10_method_3_code
def yX8_in : MethodName := ⟨RX8, "in", "(III)Z"⟩
abbrev cX8_isFine : ByteArray := prog_10_method_4_code
def yX8_isFine : MethodName := ⟨RX8, "isFine", "(I)Z"⟩
abbrev cX8_isItem : ByteArray := prog_10_method_5_code
def yX8_isItem : MethodName := ⟨RX8, "isItem", "(I)Z"⟩
abbrev cX8_isDownload : ByteArray := prog_10_method_6_code
def yX8_isDownload : MethodName := ⟨RX8, "isDownload", "(I)Z"⟩
abbrev cX8_drafts : ByteArray := prog_10_method_7_code
def yX8_drafts : MethodName := ⟨RX8, "drafts", "(III)I"⟩
abbrev cX8_talk : ByteArray := prog_10_method_8_code
def yX8_talk : MethodName := ⟨RX8, "talk", "(I)I"⟩
abbrev cX8_music : ByteArray := prog_10_method_9_code
def yX8_music : MethodName := ⟨RX8, "music", "(II)I"⟩
abbrev cX8_slot : ByteArray := prog_10_method_10_code
def yX8_slot : MethodName := ⟨RX8, "slot", "(I)I"⟩
abbrev cX8_isDraftOut : ByteArray := prog_10_method_11_code
def yX8_isDraftOut : MethodName := ⟨RX8, "isDraftOut", "(I)Z"⟩
abbrev cX8_hasDraft : ByteArray := prog_10_method_12_code
def yX8_hasDraft : MethodName := ⟨RX8, "hasDraft", "()Z"⟩
abbrev cX8_change : ByteArray := prog_10_method_13_code
def yX8_change : MethodName := ⟨RX8, "change", "(I)V"⟩
abbrev cX8_release : ByteArray := prog_10_method_14_code
def yX8_release : MethodName := ⟨RX8, "release", "(I)V"⟩
abbrev cX8_item : ByteArray := prog_10_method_15_code
def yX8_item : MethodName := ⟨RX8, "item", "(II)I"⟩
abbrev cX8_living : ByteArray := prog_10_method_16_code
def yX8_living : MethodName := ⟨RX8, "living", "(I)I"⟩
abbrev cX8_cut : ByteArray := prog_10_method_17_code
def yX8_cut : MethodName := ⟨RX8, "cut", "(II)I"⟩
abbrev cX8_withdraw : ByteArray := prog_10_method_18_code
def yX8_withdraw : MethodName := ⟨RX8, "withdraw", "(I)V"⟩
abbrev cX8_songOut : ByteArray := prog_10_method_19_code
def yX8_songOut : MethodName := ⟨RX8, "songOut", "(I)I"⟩
abbrev cX8_pass : ByteArray := prog_10_method_20_code
def yX8_pass : MethodName := ⟨RX8, "pass", "(I)I"⟩
abbrev cX8_app : ByteArray := prog_10_method_21_code
def yX8_app : MethodName := ⟨RX8, "app", "(I)I"⟩
abbrev cX8_wasTold : ByteArray := prog_10_method_22_code
def yX8_wasTold : MethodName := ⟨RX8, "wasTold", "(II)Z"⟩
abbrev cX8_poll : ByteArray := prog_10_method_23_code
def yX8_poll : MethodName := ⟨RX8, "poll", "(I)I"⟩
abbrev cX8_areRight : ByteArray := prog_10_method_24_code
def yX8_areRight : MethodName := ⟨RX8, "areRight", "(IIIIIII)Z"⟩
abbrev cX8_campaign : ByteArray := prog_10_method_25_code
def yX8_campaign : MethodName := ⟨RX8, "campaign", "(IIIIIII)I"⟩
abbrev cX8_due : ByteArray := prog_10_method_26_code
def yX8_due : MethodName := ⟨RX8, "due", "(I)I"⟩
abbrev cX8_gotToday : ByteArray := prog_10_method_27_code
def yX8_gotToday : MethodName := ⟨RX8, "gotToday", "(II)I"⟩
abbrev cX8_hasGroup : ByteArray := prog_10_method_28_code
def yX8_hasGroup : MethodName := ⟨RX8, "hasGroup", "(II)Z"⟩
abbrev cX8_adFor : ByteArray := prog_10_method_29_code
def yX8_adFor : MethodName := ⟨RX8, "adFor", "(I)I"⟩
abbrev cX8_ask : ByteArray := prog_10_method_30_code
def yX8_ask : MethodName := ⟨RX8, "ask", "(II)I"⟩
abbrev cX8_load : ByteArray := prog_10_method_31_code
def yX8_load : MethodName := ⟨RX8, "load", "(III)I"⟩
abbrev cX8_bot : ByteArray := prog_10_method_32_code
def yX8_bot : MethodName := ⟨RX8, "bot", "(IZ)Z"⟩
abbrev cX8_pieceSeconds : ByteArray := prog_10_method_33_code
def yX8_pieceSeconds : MethodName := ⟨RX8, "pieceSeconds", "(II)I"⟩
abbrev cX8_startOf : ByteArray := prog_10_method_34_code
def yX8_startOf : MethodName := ⟨RX8, "startOf", "(II)I"⟩
abbrev cX8_isSound : ByteArray := prog_10_method_35_code
def yX8_isSound : MethodName := ⟨RX8, "isSound", "(II)Z"⟩
abbrev cX8_lastLoaded : ByteArray := prog_10_method_36_code
def yX8_lastLoaded : MethodName := ⟨RX8, "lastLoaded", "(II)I"⟩
abbrev cX8_isHeard : ByteArray := prog_10_method_37_code
def yX8_isHeard : MethodName := ⟨RX8, "isHeard", "(II)Z"⟩
abbrev cX8_isOf : ByteArray := prog_10_method_38_code
def yX8_isOf : MethodName := ⟨RX8, "isOf", "(III)Z"⟩
abbrev cX8_reach : ByteArray := prog_10_method_39_code
def yX8_reach : MethodName := ⟨RX8, "reach", "(II)I"⟩
abbrev cX8_goesOn : ByteArray := prog_10_method_40_code
def yX8_goesOn : MethodName := ⟨RX8, "goesOn", "(I)I"⟩
abbrev cX8_owes : ByteArray := prog_10_method_41_code
def yX8_owes : MethodName := ⟨RX8, "owes", "(II)Z"⟩
abbrev cX8_tell : ByteArray := prog_10_method_42_code
def yX8_tell : MethodName := ⟨RX8, "tell", "(II)Z"⟩
abbrev cX8_hour : ByteArray := prog_10_method_43_code
def yX8_hour : MethodName := ⟨RX8, "hour", "()I"⟩
abbrev cX8_soundSeconds : ByteArray := prog_10_method_44_code
def yX8_soundSeconds : MethodName := ⟨RX8, "soundSeconds", "(I)I"⟩
abbrev cX8_askedFor : ByteArray := prog_10_method_45_code
def yX8_askedFor : MethodName := ⟨RX8, "askedFor", "(I)I"⟩
abbrev cX8_ofItem : ByteArray := prog_10_method_46_code
def yX8_ofItem : MethodName := ⟨RX8, "ofItem", "(II)I"⟩
abbrev cX8_ofPart : ByteArray := prog_10_method_47_code
def yX8_ofPart : MethodName := ⟨RX8, "ofPart", "(III)I"⟩
abbrev cX8_told : ByteArray := prog_10_method_48_code
def yX8_told : MethodName := ⟨RX8, "told", "(II)I"⟩
abbrev cX8_heardOf : ByteArray := prog_10_method_49_code
def yX8_heardOf : MethodName := ⟨RX8, "heardOf", "(I)I"⟩
abbrev cX8_ofCampaign : ByteArray := prog_10_method_50_code
def yX8_ofCampaign : MethodName := ⟨RX8, "ofCampaign", "(II)I"⟩
abbrev cX8_ofDownload : ByteArray := prog_10_method_51_code
def yX8_ofDownload : MethodName := ⟨RX8, "ofDownload", "(II)I"⟩
abbrev cX8_ad : ByteArray := prog_10_method_52_code
def yX8_ad : MethodName := ⟨RX8, "ad", "(II)I"⟩
abbrev cX8_loadedAnew : ByteArray := prog_10_method_53_code
def yX8_loadedAnew : MethodName := ⟨RX8, "loadedAnew", "(I)I"⟩
abbrev cX8_judge : ByteArray := prog_10_method_54_code
def yX8_judge : MethodName := ⟨RX8, "judge", "()V"⟩
abbrev cX8_counts : ByteArray := prog_10_method_55_code
def yX8_counts : MethodName := ⟨RX8, "counts", "(II)Z"⟩
abbrev cX8_count : ByteArray := prog_10_method_56_code
def yX8_count : MethodName := ⟨RX8, "count", "(II)I"⟩
abbrev cX8_isOwed : ByteArray := prog_10_method_57_code
def yX8_isOwed : MethodName := ⟨RX8, "isOwed", "(II)Z"⟩
def RJx145de : String := "java/io/Serializable"
def TJx145de : u_T := fun k => match k with
  | _ => ("", "", "", false)
def tyJx145de : Nat → FieldType := fun k => match k with
  | _ => .int
theorem nmJx145de : ∀ a, a < 0 → ∀ b, b < 0 → a ≠ b → (TJx145de a).2.1 ≠ (TJx145de b).2.1 := by decide +kernel
theorem tyJx145de_ok : ∀ k, k < 0 → parseFieldDescriptor (TJx145de k).2.2.1 = some (tyJx145de k) := by decide +kernel
def RJx8e188 : String := "java/lang/Cloneable"
def TJx8e188 : u_T := fun k => match k with
  | _ => ("", "", "", false)
def tyJx8e188 : Nat → FieldType := fun k => match k with
  | _ => .int
theorem nmJx8e188 : ∀ a, a < 0 → ∀ b, b < 0 → a ≠ b → (TJx8e188 a).2.1 ≠ (TJx8e188 b).2.1 := by decide +kernel
theorem tyJx8e188_ok : ∀ k, k < 0 → parseFieldDescriptor (TJx8e188 k).2.2.1 = some (tyJx8e188 k) := by decide +kernel
def RJxab1ab : String := "java/lang/Iterable"
def TJxab1ab : u_T := fun k => match k with
  | _ => ("", "", "", false)
def tyJxab1ab : Nat → FieldType := fun k => match k with
  | _ => .int
theorem nmJxab1ab : ∀ a, a < 0 → ∀ b, b < 0 → a ≠ b → (TJxab1ab a).2.1 ≠ (TJxab1ab b).2.1 := by decide +kernel
theorem tyJxab1ab_ok : ∀ k, k < 0 → parseFieldDescriptor (TJxab1ab k).2.2.1 = some (tyJxab1ab k) := by decide +kernel
def RJ9 : String := "java/lang/Math"
def TJ9 : u_T := fun k => match k with
  | _ => ("", "", "", false)
def tyJ9 : Nat → FieldType := fun k => match k with
  | _ => .int
theorem nmJ9 : ∀ a, a < 0 → ∀ b, b < 0 → a ≠ b → (TJ9 a).2.1 ≠ (TJ9 b).2.1 := by decide +kernel
theorem tyJ9_ok : ∀ k, k < 0 → parseFieldDescriptor (TJ9 k).2.2.1 = some (tyJ9 k) := by decide +kernel
abbrev cJ9_max_7cf53 : ByteArray := prog_18_method_65_code
def yJ9_max_7cf53 : MethodName := ⟨RJ9, "max", "(II)I"⟩
abbrev cJ9_min_7cf53 : ByteArray := prog_18_method_69_code
def yJ9_min_7cf53 : MethodName := ⟨RJ9, "min", "(II)I"⟩
def RJ0 : String := "java/lang/String"
def TJ0 : u_T := fun k => match k with
  | _ => ("", "", "", false)
def tyJ0 : Nat → FieldType := fun k => match k with
  | _ => .int
theorem nmJ0 : ∀ a, a < 0 → ∀ b, b < 0 → a ≠ b → (TJ0 a).2.1 ≠ (TJ0 b).2.1 := by decide +kernel
theorem tyJ0_ok : ∀ k, k < 0 → parseFieldDescriptor (TJ0 k).2.2.1 = some (tyJ0 k) := by decide +kernel
def RJ10 : String := "java/lang/System"
def TJ10 : u_T := fun k => match k with
  | _ => ("", "", "", false)
def tyJ10 : Nat → FieldType := fun k => match k with
  | _ => .int
theorem nmJ10 : ∀ a, a < 0 → ∀ b, b < 0 → a ≠ b → (TJ10 a).2.1 ≠ (TJ10 b).2.1 := by decide +kernel
theorem tyJ10_ok : ∀ k, k < 0 → parseFieldDescriptor (TJ10 k).2.2.1 = some (tyJ10 k) := by decide +kernel
def RJxa1e45 : String := "java/util/AbstractCollection"
def TJxa1e45 : u_T := fun k => match k with
  | _ => ("", "", "", false)
def tyJxa1e45 : Nat → FieldType := fun k => match k with
  | _ => .int
theorem nmJxa1e45 : ∀ a, a < 0 → ∀ b, b < 0 → a ≠ b → (TJxa1e45 a).2.1 ≠ (TJxa1e45 b).2.1 := by decide +kernel
theorem tyJxa1e45_ok : ∀ k, k < 0 → parseFieldDescriptor (TJxa1e45 k).2.2.1 = some (tyJxa1e45 k) := by decide +kernel
abbrev cJxa1e45_init_da8c8 : ByteArray := prog_23_method_1_code
def yJxa1e45_init_da8c8 : MethodName := ⟨RJxa1e45, "<init>", "()V"⟩
def RJxc12de : String := "java/util/AbstractList"
def TJxc12de : u_T := fun k => match k with
  | _ => ("", "", "", false)
def tyJxc12de : Nat → FieldType := fun k => match k with
  | _ => .int
theorem nmJxc12de : ∀ a, a < 0 → ∀ b, b < 0 → a ≠ b → (TJxc12de a).2.1 ≠ (TJxc12de b).2.1 := by decide +kernel
theorem tyJxc12de_ok : ∀ k, k < 0 → parseFieldDescriptor (TJxc12de k).2.2.1 = some (tyJxc12de k) := by decide +kernel
abbrev cJxc12de_init_da8c8 : ByteArray := prog_24_method_1_code
def yJxc12de_init_da8c8 : MethodName := ⟨RJxc12de, "<init>", "()V"⟩
def RJx4a65c : String := "java/util/ArrayList"
def TJx4a65c : u_T := fun k => match k with
  | 0 => ("java/util/AbstractList", "modCount", "I", false)
  | 1 => ("java/util/ArrayList", "elementData", "[Ljava/lang/Object;", false)
  | _ => ("java/util/ArrayList", "size", "I", false)
def tyJx4a65c : Nat → FieldType := fun k => match k with
  | 0 => .int
  | 1 => .array (.object "java/lang/Object")
  | _ => .int
theorem nmJx4a65c : ∀ a, a < 3 → ∀ b, b < 3 → a ≠ b → (TJx4a65c a).2.1 ≠ (TJx4a65c b).2.1 := by decide +kernel
theorem tyJx4a65c_ok : ∀ k, k < 3 → parseFieldDescriptor (TJx4a65c k).2.2.1 = some (tyJx4a65c k) := by decide +kernel
abbrev cJx4a65c_init_da8c8 : ByteArray := prog_25_method_2_code
def yJx4a65c_init_da8c8 : MethodName := ⟨RJx4a65c, "<init>", "()V"⟩
abbrev cJx4a65c_grow_92f84 : ByteArray := prog_25_method_6_code
def yJx4a65c_grow_92f84 : MethodName := ⟨RJx4a65c, "grow", "(I)[Ljava/lang/Object;"⟩
abbrev cJx4a65c_grow_d5877 : ByteArray := prog_25_method_7_code
def yJx4a65c_grow_d5877 : MethodName := ⟨RJx4a65c, "grow", "()[Ljava/lang/Object;"⟩
abbrev cJx4a65c_size_8abf5 : ByteArray := prog_25_method_8_code
def yJx4a65c_size_8abf5 : MethodName := ⟨RJx4a65c, "size", "()I"⟩
abbrev cJx4a65c_elementData_915e3 : ByteArray := prog_25_method_18_code
def yJx4a65c_elementData_915e3 : MethodName := ⟨RJx4a65c, "elementData", "(I)Ljava/lang/Object;"⟩
abbrev cJx4a65c_get_915e3 : ByteArray := prog_25_method_20_code
def yJx4a65c_get_915e3 : MethodName := ⟨RJx4a65c, "get", "(I)Ljava/lang/Object;"⟩
abbrev cJx4a65c_add_72be8 : ByteArray := prog_25_method_24_code
def yJx4a65c_add_72be8 : MethodName := ⟨RJx4a65c, "add", "(Ljava/lang/Object;[Ljava/lang/Object;I)V"⟩
abbrev cJx4a65c_add_9ea2d : ByteArray := prog_25_method_25_code
def yJx4a65c_add_9ea2d : MethodName := ⟨RJx4a65c, "add", "(Ljava/lang/Object;)Z"⟩
abbrev cJx4a65c_clear_da8c8 : ByteArray := prog_25_method_40_code
def yJx4a65c_clear_da8c8 : MethodName := ⟨RJx4a65c, "clear", "()V"⟩
def RJ7 : String := "java/util/Arrays"
def TJ7 : u_T := fun k => match k with
  | _ => ("", "", "", false)
def tyJ7 : Nat → FieldType := fun k => match k with
  | _ => .int
theorem nmJ7 : ∀ a, a < 0 → ∀ b, b < 0 → a ≠ b → (TJ7 a).2.1 ≠ (TJ7 b).2.1 := by decide +kernel
theorem tyJ7_ok : ∀ k, k < 0 → parseFieldDescriptor (TJ7 k).2.2.1 = some (tyJ7 k) := by decide +kernel
abbrev cJ7_copyOf_1904c : ByteArray := prog_26_method_119_code
def yJ7_copyOf_1904c : MethodName := ⟨RJ7, "copyOf", "([Ljava/lang/Object;I)[Ljava/lang/Object;"⟩
abbrev cJ7_copyOf_6403c : ByteArray := prog_26_method_120_code
def yJ7_copyOf_6403c : MethodName := ⟨RJ7, "copyOf", "([Ljava/lang/Object;ILjava/lang/Class;)[Ljava/lang/Object;"⟩
def RJx5ef63 : String := "java/util/Collection"
def TJx5ef63 : u_T := fun k => match k with
  | _ => ("", "", "", false)
def tyJx5ef63 : Nat → FieldType := fun k => match k with
  | _ => .int
theorem nmJx5ef63 : ∀ a, a < 0 → ∀ b, b < 0 → a ≠ b → (TJx5ef63 a).2.1 ≠ (TJx5ef63 b).2.1 := by decide +kernel
theorem tyJx5ef63_ok : ∀ k, k < 0 → parseFieldDescriptor (TJx5ef63 k).2.2.1 = some (tyJx5ef63 k) := by decide +kernel
def RJxbd725 : String := "java/util/List"
def TJxbd725 : u_T := fun k => match k with
  | _ => ("", "", "", false)
def tyJxbd725 : Nat → FieldType := fun k => match k with
  | _ => .int
theorem nmJxbd725 : ∀ a, a < 0 → ∀ b, b < 0 → a ≠ b → (TJxbd725 a).2.1 ≠ (TJxbd725 b).2.1 := by decide +kernel
theorem tyJxbd725_ok : ∀ k, k < 0 → parseFieldDescriptor (TJxbd725 k).2.2.1 = some (tyJxbd725 k) := by decide +kernel
def RJ15 : String := "java/util/Objects"
def TJ15 : u_T := fun k => match k with
  | _ => ("", "", "", false)
def tyJ15 : Nat → FieldType := fun k => match k with
  | _ => .int
theorem nmJ15 : ∀ a, a < 0 → ∀ b, b < 0 → a ≠ b → (TJ15 a).2.1 ≠ (TJ15 b).2.1 := by decide +kernel
theorem tyJ15_ok : ∀ k, k < 0 → parseFieldDescriptor (TJ15 k).2.2.1 = some (tyJ15 k) := by decide +kernel
abbrev cJ15_checkIndex_7cf53 : ByteArray := prog_29_method_17_code
def yJ15_checkIndex_7cf53 : MethodName := ⟨RJ15, "checkIndex", "(II)I"⟩
def RJxf0a74 : String := "java/util/RandomAccess"
def TJxf0a74 : u_T := fun k => match k with
  | _ => ("", "", "", false)
def tyJxf0a74 : Nat → FieldType := fun k => match k with
  | _ => .int
theorem nmJxf0a74 : ∀ a, a < 0 → ∀ b, b < 0 → a ≠ b → (TJxf0a74 a).2.1 ≠ (TJxf0a74 b).2.1 := by decide +kernel
theorem tyJxf0a74_ok : ∀ k, k < 0 → parseFieldDescriptor (TJxf0a74 k).2.2.1 = some (tyJxf0a74 k) := by decide +kernel
def RJxa66e6 : String := "java/util/SequencedCollection"
def TJxa66e6 : u_T := fun k => match k with
  | _ => ("", "", "", false)
def tyJxa66e6 : Nat → FieldType := fun k => match k with
  | _ => .int
theorem nmJxa66e6 : ∀ a, a < 0 → ∀ b, b < 0 → a ≠ b → (TJxa66e6 a).2.1 ≠ (TJxa66e6 b).2.1 := by decide +kernel
theorem tyJxa66e6_ok : ∀ k, k < 0 → parseFieldDescriptor (TJxa66e6 k).2.2.1 = some (tyJxa66e6 k) := by decide +kernel
def RJ8 : String := "jdk/internal/util/ArraysSupport"
def TJ8 : u_T := fun k => match k with
  | _ => ("", "", "", false)
def tyJ8 : Nat → FieldType := fun k => match k with
  | _ => .int
theorem nmJ8 : ∀ a, a < 0 → ∀ b, b < 0 → a ≠ b → (TJ8 a).2.1 ≠ (TJ8 b).2.1 := by decide +kernel
theorem tyJ8_ok : ∀ k, k < 0 → parseFieldDescriptor (TJ8 k).2.2.1 = some (tyJ8 k) := by decide +kernel
abbrev cJ8_newLength_cabcc : ByteArray := prog_32_method_27_code
def yJ8_newLength_cabcc : MethodName := ⟨RJ8, "newLength", "(III)I"⟩
abbrev cJ8_hugeLength_7cf53 : ByteArray := prog_32_method_28_code
def yJ8_hugeLength_7cf53 : MethodName := ⟨RJ8, "hugeLength", "(II)I"⟩
def RJ3 : String := "jdk/internal/util/Preconditions"
def TJ3 : u_T := fun k => match k with
  | _ => ("", "", "", false)
def tyJ3 : Nat → FieldType := fun k => match k with
  | _ => .int
theorem nmJ3 : ∀ a, a < 0 → ∀ b, b < 0 → a ≠ b → (TJ3 a).2.1 ≠ (TJ3 b).2.1 := by decide +kernel
theorem tyJ3_ok : ∀ k, k < 0 → parseFieldDescriptor (TJ3 k).2.2.1 = some (tyJ3 k) := by decide +kernel
abbrev cJ3_checkIndex_8e157 : ByteArray := prog_33_method_11_code
def yJ3_checkIndex_8e157 : MethodName := ⟨RJ3, "checkIndex", "(IILjava/util/function/BiFunction;)I"⟩
def RL : String := "FeedTowerLaw"
abbrev cL_talk : ByteArray := method_3_code
def yL_talk : MethodName := ⟨RL, "talk", "(LFeedTower;I[J)I"⟩
abbrev cL_music : ByteArray := method_4_code
def yL_music : MethodName := ⟨RL, "music", "(LFeedTower;II[J)I"⟩
abbrev cL_slot : ByteArray := method_5_code
def yL_slot : MethodName := ⟨RL, "slot", "(LFeedTower;I[J)I"⟩
abbrev cL_item : ByteArray := method_6_code
def yL_item : MethodName := ⟨RL, "item", "(LFeedTower;II[J)I"⟩
abbrev cL_cut : ByteArray := method_7_code
def yL_cut : MethodName := ⟨RL, "cut", "(LFeedTower;II[J)I"⟩
abbrev cL_withdraw : ByteArray := method_8_code
def yL_withdraw : MethodName := ⟨RL, "withdraw", "(LFeedTower;I)I"⟩
abbrev cL_songOut : ByteArray := method_9_code
def yL_songOut : MethodName := ⟨RL, "songOut", "(LFeedTower;I[J)I"⟩
abbrev cL_pass : ByteArray := method_10_code
def yL_pass : MethodName := ⟨RL, "pass", "(LFeedTower;I[J)I"⟩
abbrev cL_app : ByteArray := method_11_code
def yL_app : MethodName := ⟨RL, "app", "(LFeedTower;I[J)I"⟩
abbrev cL_poll : ByteArray := method_12_code
def yL_poll : MethodName := ⟨RL, "poll", "(LFeedTower;I[J)I"⟩
abbrev cL_campaign : ByteArray := method_13_code
def yL_campaign : MethodName := ⟨RL, "campaign", "(LFeedTower;IIIIIII[J)I"⟩
abbrev cL_ask : ByteArray := method_14_code
def yL_ask : MethodName := ⟨RL, "ask", "(LFeedTower;II[J)I"⟩
abbrev cL_load : ByteArray := method_15_code
def yL_load : MethodName := ⟨RL, "load", "(LFeedTower;III[J)I"⟩
abbrev cL_bot : ByteArray := method_16_code
def yL_bot : MethodName := ⟨RL, "bot", "(LFeedTower;IZ[J)I"⟩
abbrev cL_tell : ByteArray := method_17_code
def yL_tell : MethodName := ⟨RL, "tell", "(LFeedTower;II[J)I"⟩
abbrev cL_ofItem : ByteArray := method_18_code
def yL_ofItem : MethodName := ⟨RL, "ofItem", "(LFeedTower;II[J)I"⟩
abbrev cL_ofPart : ByteArray := method_19_code
def yL_ofPart : MethodName := ⟨RL, "ofPart", "(LFeedTower;III[J)I"⟩
abbrev cL_told : ByteArray := method_20_code
def yL_told : MethodName := ⟨RL, "told", "(LFeedTower;II[J)I"⟩
abbrev cL_ofCampaign : ByteArray := method_21_code
def yL_ofCampaign : MethodName := ⟨RL, "ofCampaign", "(LFeedTower;II[J)I"⟩
abbrev cL_ofDownload : ByteArray := method_22_code
def yL_ofDownload : MethodName := ⟨RL, "ofDownload", "(LFeedTower;II[J)I"⟩
abbrev cL_ad : ByteArray := method_23_code
def yL_ad : MethodName := ⟨RL, "ad", "(LFeedTower;II[J)I"⟩
abbrev cL_loadedAnew : ByteArray := method_24_code
def yL_loadedAnew : MethodName := ⟨RL, "loadedAnew", "(LFeedTower;I[J)I"⟩
abbrev cL_counts : ByteArray := method_25_code
def yL_counts : MethodName := ⟨RL, "counts", "(LFeedTower;II[J)I"⟩
abbrev cL_count : ByteArray := method_26_code
def yL_count : MethodName := ⟨RL, "count", "(LFeedTower;II[J)I"⟩
abbrev cL_isOwed : ByteArray := method_27_code
def yL_isOwed : MethodName := ⟨RL, "isOwed", "(LFeedTower;II[J)I"⟩
abbrev cL_law : ByteArray := code
def yL_law : MethodName := ⟨RL, "law", "([I)Z"⟩
abbrev vwCl : List vw_C := [(RJx4a65c, TJx4a65c, 3), (RX0, TX0, 3), (RX1, TX1, 9), (RX2, TX2, 10), (RX3, TX3, 5), (RX4, TX4, 5), (RX5, TX5, 5), (RX6, TX6, 2), (RX7, TX7, 10), (RX8, TX8, 50)]
