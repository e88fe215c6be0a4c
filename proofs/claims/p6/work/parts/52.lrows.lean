def LRL_law_94 : List UInt8 := []
def LBL_law_93 : List UInt8 := [0x04, 0xac]
def LRL_law_93 : List UInt8 := LBL_law_93 ++ LRL_law_94
def LBL_law_92 : List UInt8 := [0x04, 0x60, 0x2e, 0xb6, 0x00, 0xc6, 0x57, 0xa7, 0x00, 0x03, 0x84, 0x03, 0x06, 0xa7, 0xfa, 0x45]
def LRL_law_92 : List UInt8 := LBL_law_92 ++ LRL_law_93
def LBL_law_91 : List UInt8 := [0xa7, 0x00, 0x1a, 0x2b, 0x2a, 0x1d, 0x04, 0x60, 0x2e, 0xb6, 0x00, 0xc3, 0x57, 0x2c, 0x2a, 0x1d]
def LRL_law_91 : List UInt8 := LBL_law_91 ++ LRL_law_92
def LBL_law_90 : List UInt8 := [0x60, 0x2e, 0xb6, 0x00, 0xbf, 0x57, 0x2c, 0x2a, 0x1d, 0x04, 0x60, 0x2e, 0xb6, 0x00, 0xc2, 0x57]
def LRL_law_90 : List UInt8 := LBL_law_90 ++ LRL_law_91
def LBL_law_89 : List UInt8 := [0xb6, 0x00, 0xbb, 0x57, 0x2c, 0xb6, 0x00, 0xbe, 0x57, 0xa7, 0x00, 0x31, 0x2b, 0x2a, 0x1d, 0x04]
def LRL_law_89 : List UInt8 := LBL_law_89 ++ LRL_law_90
def LBL_law_88 : List UInt8 := [0x00, 0x4b, 0x2b, 0xb6, 0x00, 0xb7, 0x57, 0x2c, 0xb6, 0x00, 0xba, 0x57, 0xa7, 0x00, 0x3e, 0x2b]
def LRL_law_88 : List UInt8 := LBL_law_88 ++ LRL_law_89
def LBL_law_87 : List UInt8 := [0xb2, 0x57, 0xa7, 0x00, 0x58, 0x2b, 0xb6, 0x00, 0xb3, 0x57, 0x2c, 0xb6, 0x00, 0xb6, 0x57, 0xa7]
def LRL_law_87 : List UInt8 := LBL_law_87 ++ LRL_law_88
def LBL_law_86 : List UInt8 := [0x1d, 0x04, 0x60, 0x2e, 0xb6, 0x00, 0xaf, 0x57, 0x2c, 0x2a, 0x1d, 0x04, 0x60, 0x2e, 0xb6, 0x00]
def LRL_law_86 : List UInt8 := LBL_law_86 ++ LRL_law_87
def LBL_law_85 : List UInt8 := [0x60, 0x2e, 0x2a, 0x1d, 0x05, 0x60, 0x2e, 0xb6, 0x00, 0xae, 0x57, 0xa7, 0x00, 0x6f, 0x2b, 0x2a]
def LRL_law_85 : List UInt8 := LBL_law_85 ++ LRL_law_86
def LBL_law_84 : List UInt8 := [0x04, 0x60, 0x2e, 0x2a, 0x1d, 0x05, 0x60, 0x2e, 0xb6, 0x00, 0xab, 0x57, 0x2c, 0x2a, 0x1d, 0x04]
def LRL_law_84 : List UInt8 := LBL_law_84 ++ LRL_law_85
def LBL_law_83 : List UInt8 := [0x2e, 0x2a, 0x1d, 0x08, 0x60, 0x2e, 0xb6, 0x00, 0xaa, 0x57, 0xa7, 0x00, 0x90, 0x2b, 0x2a, 0x1d]
def LRL_law_83 : List UInt8 := LBL_law_83 ++ LRL_law_84
def LBL_law_82 : List UInt8 := [0x60, 0x2e, 0x2a, 0x1d, 0x05, 0x60, 0x2e, 0x2a, 0x1d, 0x06, 0x60, 0x2e, 0x2a, 0x1d, 0x07, 0x60]
def LRL_law_82 : List UInt8 := LBL_law_82 ++ LRL_law_83
def LBL_law_81 : List UInt8 := [0x07, 0x60, 0x2e, 0x2a, 0x1d, 0x08, 0x60, 0x2e, 0xb6, 0x00, 0xa6, 0x57, 0x2c, 0x2a, 0x1d, 0x04]
def LRL_law_81 : List UInt8 := LBL_law_81 ++ LRL_law_82
def LBL_law_80 : List UInt8 := [0x1d, 0x04, 0x60, 0x2e, 0x2a, 0x1d, 0x05, 0x60, 0x2e, 0x2a, 0x1d, 0x06, 0x60, 0x2e, 0x2a, 0x1d]
def LRL_law_80 : List UInt8 := LBL_law_80 ++ LRL_law_81
def LBL_law_79 : List UInt8 := [0x2e, 0x85, 0x14, 0x00, 0x9f, 0x7f, 0x81, 0xb6, 0x00, 0xa5, 0x58, 0xa7, 0x00, 0xcf, 0x2b, 0x2a]
def LRL_law_79 : List UInt8 := LBL_law_79 ++ LRL_law_80
def LBL_law_78 : List UInt8 := [0x05, 0x60, 0x2e, 0x2a, 0x1d, 0x06, 0x60, 0x2e, 0x85, 0x10, 0x20, 0x79, 0x2a, 0x1d, 0x07, 0x60]
def LRL_law_78 : List UInt8 := LBL_law_78 ++ LRL_law_79
def LBL_law_77 : List UInt8 := [0x00, 0x9f, 0x7f, 0x81, 0xb6, 0x00, 0xa1, 0x58, 0x2c, 0x2a, 0x1d, 0x04, 0x60, 0x2e, 0x2a, 0x1d]
def LRL_law_77 : List UInt8 := LBL_law_77 ++ LRL_law_78
def LBL_law_76 : List UInt8 := [0x2a, 0x1d, 0x06, 0x60, 0x2e, 0x85, 0x10, 0x20, 0x79, 0x2a, 0x1d, 0x07, 0x60, 0x2e, 0x85, 0x14]
def LRL_law_76 : List UInt8 := LBL_law_76 ++ LRL_law_77
def LBL_law_75 : List UInt8 := [0x9e, 0x57, 0xa7, 0x01, 0x18, 0x2b, 0x2a, 0x1d, 0x04, 0x60, 0x2e, 0x2a, 0x1d, 0x05, 0x60, 0x2e]
def LRL_law_75 : List UInt8 := LBL_law_75 ++ LRL_law_76
def LBL_law_74 : List UInt8 := [0x1d, 0x04, 0x60, 0x2e, 0x2a, 0x1d, 0x05, 0x60, 0x2e, 0x2a, 0x1d, 0x06, 0x60, 0x2e, 0xb6, 0x00]
def LRL_law_74 : List UInt8 := LBL_law_74 ++ LRL_law_75
def LBL_law_73 : List UInt8 := [0x2a, 0x1d, 0x05, 0x60, 0x2e, 0x2a, 0x1d, 0x06, 0x60, 0x2e, 0xb6, 0x00, 0x9b, 0x57, 0x2c, 0x2a]
def LRL_law_73 : List UInt8 := LBL_law_73 ++ LRL_law_74
def LBL_law_72 : List UInt8 := [0x97, 0x57, 0x2c, 0xb6, 0x00, 0x9a, 0x57, 0xa7, 0x01, 0x43, 0x2b, 0x2a, 0x1d, 0x04, 0x60, 0x2e]
def LRL_law_72 : List UInt8 := LBL_law_72 ++ LRL_law_73
def LBL_law_71 : List UInt8 := [0x2b, 0xb6, 0x00, 0x93, 0x57, 0x2c, 0xb6, 0x00, 0x96, 0x57, 0xa7, 0x01, 0x50, 0x2b, 0xb6, 0x00]
def LRL_law_71 : List UInt8 := LBL_law_71 ++ LRL_law_72
def LBL_law_70 : List UInt8 := [0x1d, 0x04, 0x60, 0x2e, 0x2a, 0x1d, 0x05, 0x60, 0x2e, 0xb6, 0x00, 0x92, 0x57, 0xa7, 0x01, 0x5d]
def LRL_law_70 : List UInt8 := LBL_law_70 ++ LRL_law_71
def LBL_law_69 : List UInt8 := [0x2a, 0x1d, 0x04, 0x60, 0x2e, 0x2a, 0x1d, 0x05, 0x60, 0x2e, 0xb6, 0x00, 0x8f, 0x57, 0x2c, 0x2a]
def LRL_law_69 : List UInt8 := LBL_law_69 ++ LRL_law_70
def LBL_law_68 : List UInt8 := [0x01, 0x8b, 0x2b, 0xb6, 0x00, 0x8b, 0x57, 0x2c, 0xb6, 0x00, 0x8e, 0x57, 0xa7, 0x01, 0x7e, 0x2b]
def LRL_law_68 : List UInt8 := LBL_law_68 ++ LRL_law_69
def LBL_law_67 : List UInt8 := [0x2c, 0x2a, 0x1d, 0x04, 0x60, 0x2e, 0x2a, 0x1d, 0x05, 0x60, 0x2e, 0xb6, 0x00, 0x8a, 0x57, 0xa7]
def LRL_law_67 : List UInt8 := LBL_law_67 ++ LRL_law_68
def LBL_law_66 : List UInt8 := [0xac, 0x2b, 0x2a, 0x1d, 0x04, 0x60, 0x2e, 0x2a, 0x1d, 0x05, 0x60, 0x2e, 0xb6, 0x00, 0x87, 0x57]
def LRL_law_66 : List UInt8 := LBL_law_66 ++ LRL_law_67
def LBL_law_65 : List UInt8 := [0x57, 0xa7, 0x01, 0xb9, 0x2b, 0xb6, 0x00, 0x83, 0x57, 0x2c, 0xb6, 0x00, 0x86, 0x57, 0xa7, 0x01]
def LRL_law_65 : List UInt8 := LBL_law_65 ++ LRL_law_66
def LBL_law_64 : List UInt8 := [0x7f, 0x57, 0x2c, 0x2a, 0x1d, 0x04, 0x60, 0x2e, 0x2a, 0x1d, 0x05, 0x60, 0x2e, 0xb6, 0x00, 0x82]
def LRL_law_64 : List UInt8 := LBL_law_64 ++ LRL_law_65
def LBL_law_63 : List UInt8 := [0xa7, 0x01, 0xda, 0x2b, 0x2a, 0x1d, 0x04, 0x60, 0x2e, 0x2a, 0x1d, 0x05, 0x60, 0x2e, 0xb6, 0x00]
def LRL_law_63 : List UInt8 := LBL_law_63 ++ LRL_law_64
def LBL_law_62 : List UInt8 := [0x00, 0x7a, 0x57, 0xa7, 0x01, 0xe7, 0x2b, 0xb6, 0x00, 0x7b, 0x57, 0x2c, 0xb6, 0x00, 0x7e, 0x57]
def LRL_law_62 : List UInt8 := LBL_law_62 ++ LRL_law_63
def LBL_law_61 : List UInt8 := [0x2a, 0x1d, 0x04, 0x60, 0x2e, 0xb6, 0x00, 0x77, 0x57, 0x2c, 0x2a, 0x1d, 0x04, 0x60, 0x2e, 0xb6]
def LRL_law_61 : List UInt8 := LBL_law_61 ++ LRL_law_62
def LBL_law_60 : List UInt8 := [0x02, 0x0b, 0x2b, 0xb6, 0x00, 0x73, 0x57, 0x2c, 0xb6, 0x00, 0x76, 0x57, 0xa7, 0x01, 0xfe, 0x2b]
def LRL_law_60 : List UInt8 := LBL_law_60 ++ LRL_law_61
def LBL_law_59 : List UInt8 := [0x6e, 0x57, 0xa7, 0x02, 0x18, 0x2b, 0xb6, 0x00, 0x6f, 0x57, 0x2c, 0xb6, 0x00, 0x72, 0x57, 0xa7]
def LRL_law_59 : List UInt8 := LBL_law_59 ++ LRL_law_60
def LBL_law_58 : List UInt8 := [0x00, 0x6b, 0x57, 0x2c, 0x2a, 0x1d, 0x04, 0x60, 0x2e, 0x2a, 0x1d, 0x05, 0x60, 0x2e, 0xb6, 0x00]
def LRL_law_58 : List UInt8 := LBL_law_58 ++ LRL_law_59
def LBL_law_57 : List UInt8 := [0x57, 0xa7, 0x02, 0x39, 0x2b, 0x2a, 0x1d, 0x04, 0x60, 0x2e, 0x2a, 0x1d, 0x05, 0x60, 0x2e, 0xb6]
def LRL_law_57 : List UInt8 := LBL_law_57 ++ LRL_law_58
def LBL_law_56 : List UInt8 := [0x05, 0x60, 0x2e, 0x2a, 0x1d, 0x06, 0x60, 0x2e, 0x2a, 0x1d, 0x07, 0x60, 0x2e, 0xb6, 0x00, 0x6a]
def LRL_law_56 : List UInt8 := LBL_law_56 ++ LRL_law_57
def LBL_law_55 : List UInt8 := [0x1d, 0x07, 0x60, 0x2e, 0xb6, 0x00, 0x67, 0x57, 0x2c, 0x2a, 0x1d, 0x04, 0x60, 0x2e, 0x2a, 0x1d]
def LRL_law_55 : List UInt8 := LBL_law_55 ++ LRL_law_56
def LBL_law_54 : List UInt8 := [0x2a, 0x1d, 0x04, 0x60, 0x2e, 0x2a, 0x1d, 0x05, 0x60, 0x2e, 0x2a, 0x1d, 0x06, 0x60, 0x2e, 0x2a]
def LRL_law_54 : List UInt8 := LBL_law_54 ++ LRL_law_55
def LBL_law_53 : List UInt8 := [0x02, 0x7b, 0x2b, 0xb6, 0x00, 0x63, 0x57, 0x2c, 0xb6, 0x00, 0x66, 0x57, 0xa7, 0x02, 0x6e, 0x2b]
def LRL_law_53 : List UInt8 := LBL_law_53 ++ LRL_law_54
def LBL_law_52 : List UInt8 := [0x2c, 0x2a, 0x1d, 0x04, 0x60, 0x2e, 0x2a, 0x1d, 0x05, 0x60, 0x2e, 0xb6, 0x00, 0x62, 0x57, 0xa7]
def LRL_law_52 : List UInt8 := LBL_law_52 ++ LRL_law_53
def LBL_law_51 : List UInt8 := [0x9c, 0x2b, 0x2a, 0x1d, 0x04, 0x60, 0x2e, 0x2a, 0x1d, 0x05, 0x60, 0x2e, 0xb6, 0x00, 0x5f, 0x57]
def LRL_law_51 : List UInt8 := LBL_law_51 ++ LRL_law_52
def LBL_law_50 : List UInt8 := [0xb6, 0x00, 0x5b, 0x57, 0x2c, 0x2a, 0x1d, 0x04, 0x60, 0x2e, 0xb6, 0x00, 0x5e, 0x57, 0xa7, 0x02]
def LRL_law_50 : List UInt8 := LBL_law_50 ++ LRL_law_51
def LBL_law_49 : List UInt8 := [0x57, 0x57, 0x2c, 0xb6, 0x00, 0x5a, 0x57, 0xa7, 0x02, 0xb3, 0x2b, 0x2a, 0x1d, 0x04, 0x60, 0x2e]
def LRL_law_49 : List UInt8 := LBL_law_49 ++ LRL_law_50
def LBL_law_48 : List UInt8 := [0x2e, 0x2a, 0x1d, 0x06, 0x60, 0x2e, 0xb6, 0x00, 0x56, 0x57, 0xa7, 0x02, 0xc0, 0x2b, 0xb6, 0x00]
def LRL_law_48 : List UInt8 := LBL_law_48 ++ LRL_law_49
def LBL_law_47 : List UInt8 := [0x60, 0x2e, 0xb6, 0x00, 0x53, 0x57, 0x2c, 0x2a, 0x1d, 0x04, 0x60, 0x2e, 0x2a, 0x1d, 0x05, 0x60]
def LRL_law_47 : List UInt8 := LBL_law_47 ++ LRL_law_48
def LBL_law_46 : List UInt8 := [0x02, 0xeb, 0x2b, 0x2a, 0x1d, 0x04, 0x60, 0x2e, 0x2a, 0x1d, 0x05, 0x60, 0x2e, 0x2a, 0x1d, 0x06]
def LRL_law_46 : List UInt8 := LBL_law_46 ++ LRL_law_47
def LBL_law_45 : List UInt8 := [0x2e, 0xb6, 0x00, 0x4f, 0x57, 0x2c, 0x2a, 0x1d, 0x04, 0x60, 0x2e, 0xb6, 0x00, 0x52, 0x57, 0xa7]
def LRL_law_45 : List UInt8 := LBL_law_45 ++ LRL_law_46
def LBL_law_44 : List UInt8 := [0x00, 0x4b, 0x57, 0x2c, 0xb6, 0x00, 0x4e, 0x57, 0xa7, 0x03, 0x02, 0x2b, 0x2a, 0x1d, 0x04, 0x60]
def LRL_law_44 : List UInt8 := LBL_law_44 ++ LRL_law_45
def LBL_law_43 : List UInt8 := [0x60, 0x2e, 0x2a, 0x1d, 0x05, 0x60, 0x2e, 0xb6, 0x00, 0x4a, 0x57, 0xa7, 0x03, 0x0f, 0x2b, 0xb6]
def LRL_law_43 : List UInt8 := LBL_law_43 ++ LRL_law_44
def LBL_law_42 : List UInt8 := [0x04, 0x60, 0x2e, 0x2a, 0x1d, 0x05, 0x60, 0x2e, 0xb6, 0x00, 0x47, 0x57, 0x2c, 0x2a, 0x1d, 0x04]
def LRL_law_42 : List UInt8 := LBL_law_42 ++ LRL_law_43
def LBL_law_41 : List UInt8 := [0x2e, 0x2a, 0x1d, 0x05, 0x60, 0x2e, 0xb6, 0x00, 0x46, 0x57, 0xa7, 0x03, 0x30, 0x2b, 0x2a, 0x1d]
def LRL_law_41 : List UInt8 := LBL_law_41 ++ LRL_law_42
def LBL_law_40 : List UInt8 := [0x60, 0x2e, 0x2a, 0x1d, 0x05, 0x60, 0x2e, 0xb6, 0x00, 0x43, 0x57, 0x2c, 0x2a, 0x1d, 0x04, 0x60]
def LRL_law_40 : List UInt8 := LBL_law_40 ++ LRL_law_41
def LBL_law_39 : List UInt8 := [0x2a, 0x1d, 0x04, 0x60, 0x2e, 0xb6, 0x00, 0x42, 0x57, 0xa7, 0x03, 0x51, 0x2b, 0x2a, 0x1d, 0x04]
def LRL_law_39 : List UInt8 := LBL_law_39 ++ LRL_law_40
def LBL_law_38 : List UInt8 := [0x3d, 0x57, 0xa7, 0x03, 0x68, 0x2b, 0x2a, 0x1d, 0x04, 0x60, 0x2e, 0xb6, 0x00, 0x3e, 0x57, 0x2c]
def LRL_law_38 : List UInt8 := LBL_law_38 ++ LRL_law_39
def LBL_law_37 : List UInt8 := [0x00, 0x3a, 0x57, 0x2c, 0x2a, 0x1d, 0x04, 0x60, 0x2e, 0x2a, 0x1d, 0x05, 0x60, 0x2e, 0xb6, 0x00]
def LRL_law_37 : List UInt8 := LBL_law_37 ++ LRL_law_38
def LBL_law_36 : List UInt8 := [0x57, 0xa7, 0x03, 0x89, 0x2b, 0x2a, 0x1d, 0x04, 0x60, 0x2e, 0x2a, 0x1d, 0x05, 0x60, 0x2e, 0xb6]
def LRL_law_36 : List UInt8 := LBL_law_36 ++ LRL_law_37
def LBL_law_35 : List UInt8 := [0x36, 0x57, 0x2c, 0x2a, 0x1d, 0x04, 0x60, 0x2e, 0x2a, 0x1d, 0x05, 0x60, 0x2e, 0xb6, 0x00, 0x39]
def LRL_law_35 : List UInt8 := LBL_law_35 ++ LRL_law_36
def LBL_law_34 : List UInt8 := [0xa7, 0x03, 0xaa, 0x2b, 0x2a, 0x1d, 0x04, 0x60, 0x2e, 0x2a, 0x1d, 0x05, 0x60, 0x2e, 0xb6, 0x00]
def LRL_law_34 : List UInt8 := LBL_law_34 ++ LRL_law_35
def LBL_law_33 : List UInt8 := [0x57, 0x2c, 0x2a, 0x1d, 0x04, 0x60, 0x2e, 0x2a, 0x1d, 0x05, 0x60, 0x2e, 0xb6, 0x00, 0x35, 0x57]
def LRL_law_33 : List UInt8 := LBL_law_33 ++ LRL_law_34
def LBL_law_32 : List UInt8 := [0x03, 0xcb, 0x2b, 0x2a, 0x1d, 0x04, 0x60, 0x2e, 0x2a, 0x1d, 0x05, 0x60, 0x2e, 0xb6, 0x00, 0x32]
def LRL_law_32 : List UInt8 := LBL_law_32 ++ LRL_law_33
def LBL_law_31 : List UInt8 := [0x2d, 0x57, 0xa7, 0x03, 0xd8, 0x2b, 0xb6, 0x00, 0x2e, 0x57, 0x2c, 0xb6, 0x00, 0x31, 0x57, 0xa7]
def LRL_law_31 : List UInt8 := LBL_law_31 ++ LRL_law_32
def LBL_law_30 : List UInt8 := [0x1d, 0x04, 0x60, 0x2e, 0x2a, 0x1d, 0x05, 0x60, 0x2e, 0x2a, 0x1d, 0x06, 0x60, 0x2e, 0xb6, 0x00]
def LRL_law_30 : List UInt8 := LBL_law_30 ++ LRL_law_31
def LBL_law_29 : List UInt8 := [0x2a, 0x1d, 0x05, 0x60, 0x2e, 0x2a, 0x1d, 0x06, 0x60, 0x2e, 0xb6, 0x00, 0x2a, 0x57, 0x2c, 0x2a]
def LRL_law_29 : List UInt8 := LBL_law_29 ++ LRL_law_30
def LBL_law_28 : List UInt8 := [0x05, 0x60, 0x2e, 0xb6, 0x00, 0x29, 0x57, 0xa7, 0x04, 0x03, 0x2b, 0x2a, 0x1d, 0x04, 0x60, 0x2e]
def LRL_law_28 : List UInt8 := LBL_law_28 ++ LRL_law_29
def LBL_law_27 : List UInt8 := [0x1d, 0x05, 0x60, 0x2e, 0xb6, 0x00, 0x26, 0x57, 0x2c, 0x2a, 0x1d, 0x04, 0x60, 0x2e, 0x2a, 0x1d]
def LRL_law_27 : List UInt8 := LBL_law_27 ++ LRL_law_28
def LBL_law_26 : List UInt8 := [0x03, 0xb6, 0x00, 0x25, 0x9f, 0x04, 0x26, 0x03, 0xac, 0x2b, 0x2a, 0x1d, 0x04, 0x60, 0x2e, 0x2a]
def LRL_law_26 : List UInt8 := LBL_law_26 ++ LRL_law_27
def LBL_law_25 : List UInt8 := [0x1d, 0x05, 0x60, 0x2e, 0x2a, 0x1d, 0x06, 0x60, 0x2e, 0x99, 0x00, 0x07, 0x04, 0xa7, 0x00, 0x04]
def LRL_law_25 : List UInt8 := LBL_law_25 ++ LRL_law_26
def LBL_law_24 : List UInt8 := [0x07, 0x04, 0xa7, 0x00, 0x04, 0x03, 0xb6, 0x00, 0x21, 0x2c, 0x2a, 0x1d, 0x04, 0x60, 0x2e, 0x2a]
def LRL_law_24 : List UInt8 := LBL_law_24 ++ LRL_law_25
def LBL_law_23 : List UInt8 := [0x1d, 0x04, 0x60, 0x2e, 0x2a, 0x1d, 0x05, 0x60, 0x2e, 0x2a, 0x1d, 0x06, 0x60, 0x2e, 0x99, 0x00]
def LRL_law_23 : List UInt8 := LBL_law_23 ++ LRL_law_24
def LBL_law_22 : List UInt8 := [0x60, 0x2e, 0x2a, 0x1d, 0x06, 0x60, 0x2e, 0xb6, 0x00, 0x20, 0x57, 0xa7, 0x04, 0x5f, 0x2b, 0x2a]
def LRL_law_22 : List UInt8 := LBL_law_22 ++ LRL_law_23
def LBL_law_21 : List UInt8 := [0x06, 0x60, 0x2e, 0xb6, 0x00, 0x1c, 0x57, 0x2c, 0x2a, 0x1d, 0x04, 0x60, 0x2e, 0x2a, 0x1d, 0x05]
def LRL_law_21 : List UInt8 := LBL_law_21 ++ LRL_law_22
def LBL_law_20 : List UInt8 := [0xa7, 0x04, 0x8a, 0x2b, 0x2a, 0x1d, 0x04, 0x60, 0x2e, 0x2a, 0x1d, 0x05, 0x60, 0x2e, 0x2a, 0x1d]
def LRL_law_20 : List UInt8 := LBL_law_20 ++ LRL_law_21
def LBL_law_19 : List UInt8 := [0x60, 0x2e, 0x2a, 0x1d, 0x06, 0x60, 0x2e, 0x2a, 0x1d, 0x07, 0x60, 0x2e, 0xb6, 0x00, 0x1b, 0x57]
def LRL_law_19 : List UInt8 := LBL_law_19 ++ LRL_law_20
def LBL_law_18 : List UInt8 := [0x07, 0x60, 0x2e, 0xb6, 0x00, 0x17, 0x57, 0x2c, 0x2a, 0x1d, 0x04, 0x60, 0x2e, 0x2a, 0x1d, 0x05]
def LRL_law_18 : List UInt8 := LBL_law_18 ++ LRL_law_19
def LBL_law_17 : List UInt8 := [0x1d, 0x04, 0x60, 0x2e, 0x2a, 0x1d, 0x05, 0x60, 0x2e, 0x2a, 0x1d, 0x06, 0x60, 0x2e, 0x2a, 0x1d]
def LRL_law_17 : List UInt8 := LBL_law_17 ++ LRL_law_18
def LBL_law_16 : List UInt8 := [0x60, 0x2e, 0x2a, 0x1d, 0x05, 0x60, 0x2e, 0xb6, 0x00, 0x16, 0x57, 0xa7, 0x04, 0xbf, 0x2b, 0x2a]
def LRL_law_16 : List UInt8 := LBL_law_16 ++ LRL_law_17
def LBL_law_15 : List UInt8 := [0x04, 0x60, 0x2e, 0x2a, 0x1d, 0x05, 0x60, 0x2e, 0xb6, 0x00, 0x12, 0x57, 0x2c, 0x2a, 0x1d, 0x04]
def LRL_law_15 : List UInt8 := LBL_law_15 ++ LRL_law_16
def LBL_law_14 : List UInt8 := [0x2b, 0xb6, 0x00, 0x0d, 0x57, 0x2c, 0xb6, 0x00, 0x11, 0x57, 0xa7, 0x04, 0xe0, 0x2b, 0x2a, 0x1d]
def LRL_law_14 : List UInt8 := LBL_law_14 ++ LRL_law_15
def LBL_law_13 : List UInt8 := [0x00, 0x00, 0x05, 0x61, 0x00, 0x00, 0x05, 0x6e, 0x00, 0x00, 0x05, 0x7b, 0x00, 0x00, 0x05, 0x92]
def LRL_law_13 : List UInt8 := LBL_law_13 ++ LRL_law_14
def LBL_law_12 : List UInt8 := [0x00, 0x00, 0x04, 0xdd, 0x00, 0x00, 0x05, 0x1c, 0x00, 0x00, 0x05, 0x3d, 0x00, 0x00, 0x05, 0x54]
def LRL_law_12 : List UInt8 := LBL_law_12 ++ LRL_law_13
def LBL_law_11 : List UInt8 := [0x00, 0x00, 0x04, 0x4f, 0x00, 0x00, 0x04, 0x5c, 0x00, 0x00, 0x04, 0x69, 0x00, 0x00, 0x04, 0x94]
def LRL_law_11 : List UInt8 := LBL_law_11 ++ LRL_law_12
def LBL_law_10 : List UInt8 := [0x00, 0x00, 0x03, 0xf3, 0x00, 0x00, 0x04, 0x00, 0x00, 0x00, 0x04, 0x21, 0x00, 0x00, 0x04, 0x2e]
def LRL_law_10 : List UInt8 := LBL_law_10 ++ LRL_law_11
def LBL_law_9 : List UInt8 := [0x00, 0x00, 0x03, 0xa1, 0x00, 0x00, 0x03, 0xae, 0x00, 0x00, 0x03, 0xc5, 0x00, 0x00, 0x03, 0xd2]
def LRL_law_9 : List UInt8 := LBL_law_9 ++ LRL_law_10
def LBL_law_8 : List UInt8 := [0x00, 0x00, 0x03, 0x31, 0x00, 0x00, 0x03, 0x3e, 0x00, 0x00, 0x03, 0x73, 0x00, 0x00, 0x03, 0x94]
def LRL_law_8 : List UInt8 := LBL_law_8 ++ LRL_law_9
def LBL_law_7 : List UInt8 := [0x00, 0x00, 0x02, 0xc1, 0x00, 0x00, 0x02, 0xec, 0x00, 0x00, 0x02, 0xf9, 0x00, 0x00, 0x03, 0x10]
def LRL_law_7 : List UInt8 := LBL_law_7 ++ LRL_law_8
def LBL_law_6 : List UInt8 := [0x00, 0x00, 0x02, 0x5b, 0x00, 0x00, 0x02, 0x7c, 0x00, 0x00, 0x02, 0x9d, 0x00, 0x00, 0x02, 0xaa]
def LRL_law_6 : List UInt8 := LBL_law_6 ++ LRL_law_7
def LBL_law_5 : List UInt8 := [0x00, 0x00, 0x01, 0xe1, 0x00, 0x00, 0x02, 0x02, 0x00, 0x00, 0x02, 0x23, 0x00, 0x00, 0x02, 0x44]
def LRL_law_5 : List UInt8 := LBL_law_5 ++ LRL_law_6
def LBL_law_4 : List UInt8 := [0x00, 0x00, 0x01, 0x4d, 0x00, 0x00, 0x01, 0x88, 0x00, 0x00, 0x01, 0xa9, 0x00, 0x00, 0x01, 0xd4]
def LRL_law_4 : List UInt8 := LBL_law_4 ++ LRL_law_5
def LBL_law_3 : List UInt8 := [0x00, 0x00, 0x00, 0xbf, 0x00, 0x00, 0x00, 0xcc, 0x00, 0x00, 0x00, 0xed, 0x00, 0x00, 0x01, 0x22]
def LRL_law_3 : List UInt8 := LBL_law_3 ++ LRL_law_4
def LBL_law_2 : List UInt8 := [0x7e, 0xaa, 0x00, 0x00, 0x00, 0x00, 0x05, 0xa9, 0x00, 0x00, 0x00, 0x00, 0x00, 0x00, 0x00, 0x2b]
def LRL_law_2 : List UInt8 := LBL_law_2 ++ LRL_law_3
def LBL_law_1 : List UInt8 := [0x03, 0x3e, 0x1d, 0x2a, 0xbe, 0x10, 0x06, 0x64, 0xa3, 0x05, 0xb8, 0x2a, 0x1d, 0x2e, 0x10, 0x3f]
def LRL_law_1 : List UInt8 := LBL_law_1 ++ LRL_law_2
def LBL_law_0 : List UInt8 := [0xbb, 0x00, 0x07, 0x59, 0xb7, 0x00, 0x09, 0x4c, 0xbb, 0x00, 0x0a, 0x59, 0xb7, 0x00, 0x0c, 0x4d]
def LRL_law_0 : List UInt8 := LBL_law_0 ++ LRL_law_1
set_option maxRecDepth 100000 in
theorem LBL_law_eq : cL_law.data.toList = LRL_law_0 := by decide +kernel
theorem LBL_lawr_0 (k : Nat) : cL_law.data.toList[0 + k]? = LRL_law_0[k]? := by rw [LBL_law_eq, Nat.zero_add]
theorem LBL_lawr_1 (k : Nat) : cL_law.data.toList[16 + k]? = LRL_law_1[k]? := by
  have h := LBL_lawr_0 (16 + k)
  rw [show 0 + (16 + k) = 16 + k by omega] at h
  rw [h]
  exact (List.getElem?_append_right (l₁ := LBL_law_0) (l₂ := LRL_law_1) (show 16 ≤ 16 + k by omega)).trans (congrArg (fun i => LRL_law_1[i]?) (show 16 + k - 16 = k by omega))
theorem LBL_lawr_2 (k : Nat) : cL_law.data.toList[32 + k]? = LRL_law_2[k]? := by
  have h := LBL_lawr_1 (16 + k)
  rw [show 16 + (16 + k) = 32 + k by omega] at h
  rw [h]
  exact (List.getElem?_append_right (l₁ := LBL_law_1) (l₂ := LRL_law_2) (show 16 ≤ 16 + k by omega)).trans (congrArg (fun i => LRL_law_2[i]?) (show 16 + k - 16 = k by omega))
theorem LBL_lawr_3 (k : Nat) : cL_law.data.toList[48 + k]? = LRL_law_3[k]? := by
  have h := LBL_lawr_2 (16 + k)
  rw [show 32 + (16 + k) = 48 + k by omega] at h
  rw [h]
  exact (List.getElem?_append_right (l₁ := LBL_law_2) (l₂ := LRL_law_3) (show 16 ≤ 16 + k by omega)).trans (congrArg (fun i => LRL_law_3[i]?) (show 16 + k - 16 = k by omega))
theorem LBL_lawr_4 (k : Nat) : cL_law.data.toList[64 + k]? = LRL_law_4[k]? := by
  have h := LBL_lawr_3 (16 + k)
  rw [show 48 + (16 + k) = 64 + k by omega] at h
  rw [h]
  exact (List.getElem?_append_right (l₁ := LBL_law_3) (l₂ := LRL_law_4) (show 16 ≤ 16 + k by omega)).trans (congrArg (fun i => LRL_law_4[i]?) (show 16 + k - 16 = k by omega))
theorem LBL_lawr_5 (k : Nat) : cL_law.data.toList[80 + k]? = LRL_law_5[k]? := by
  have h := LBL_lawr_4 (16 + k)
  rw [show 64 + (16 + k) = 80 + k by omega] at h
  rw [h]
  exact (List.getElem?_append_right (l₁ := LBL_law_4) (l₂ := LRL_law_5) (show 16 ≤ 16 + k by omega)).trans (congrArg (fun i => LRL_law_5[i]?) (show 16 + k - 16 = k by omega))
theorem LBL_lawr_6 (k : Nat) : cL_law.data.toList[96 + k]? = LRL_law_6[k]? := by
  have h := LBL_lawr_5 (16 + k)
  rw [show 80 + (16 + k) = 96 + k by omega] at h
  rw [h]
  exact (List.getElem?_append_right (l₁ := LBL_law_5) (l₂ := LRL_law_6) (show 16 ≤ 16 + k by omega)).trans (congrArg (fun i => LRL_law_6[i]?) (show 16 + k - 16 = k by omega))
theorem LBL_lawr_7 (k : Nat) : cL_law.data.toList[112 + k]? = LRL_law_7[k]? := by
  have h := LBL_lawr_6 (16 + k)
  rw [show 96 + (16 + k) = 112 + k by omega] at h
  rw [h]
  exact (List.getElem?_append_right (l₁ := LBL_law_6) (l₂ := LRL_law_7) (show 16 ≤ 16 + k by omega)).trans (congrArg (fun i => LRL_law_7[i]?) (show 16 + k - 16 = k by omega))
theorem LBL_lawr_8 (k : Nat) : cL_law.data.toList[128 + k]? = LRL_law_8[k]? := by
  have h := LBL_lawr_7 (16 + k)
  rw [show 112 + (16 + k) = 128 + k by omega] at h
  rw [h]
  exact (List.getElem?_append_right (l₁ := LBL_law_7) (l₂ := LRL_law_8) (show 16 ≤ 16 + k by omega)).trans (congrArg (fun i => LRL_law_8[i]?) (show 16 + k - 16 = k by omega))
theorem LBL_lawr_9 (k : Nat) : cL_law.data.toList[144 + k]? = LRL_law_9[k]? := by
  have h := LBL_lawr_8 (16 + k)
  rw [show 128 + (16 + k) = 144 + k by omega] at h
  rw [h]
  exact (List.getElem?_append_right (l₁ := LBL_law_8) (l₂ := LRL_law_9) (show 16 ≤ 16 + k by omega)).trans (congrArg (fun i => LRL_law_9[i]?) (show 16 + k - 16 = k by omega))
theorem LBL_lawr_10 (k : Nat) : cL_law.data.toList[160 + k]? = LRL_law_10[k]? := by
  have h := LBL_lawr_9 (16 + k)
  rw [show 144 + (16 + k) = 160 + k by omega] at h
  rw [h]
  exact (List.getElem?_append_right (l₁ := LBL_law_9) (l₂ := LRL_law_10) (show 16 ≤ 16 + k by omega)).trans (congrArg (fun i => LRL_law_10[i]?) (show 16 + k - 16 = k by omega))
theorem LBL_lawr_11 (k : Nat) : cL_law.data.toList[176 + k]? = LRL_law_11[k]? := by
  have h := LBL_lawr_10 (16 + k)
  rw [show 160 + (16 + k) = 176 + k by omega] at h
  rw [h]
  exact (List.getElem?_append_right (l₁ := LBL_law_10) (l₂ := LRL_law_11) (show 16 ≤ 16 + k by omega)).trans (congrArg (fun i => LRL_law_11[i]?) (show 16 + k - 16 = k by omega))
theorem LBL_lawr_12 (k : Nat) : cL_law.data.toList[192 + k]? = LRL_law_12[k]? := by
  have h := LBL_lawr_11 (16 + k)
  rw [show 176 + (16 + k) = 192 + k by omega] at h
  rw [h]
  exact (List.getElem?_append_right (l₁ := LBL_law_11) (l₂ := LRL_law_12) (show 16 ≤ 16 + k by omega)).trans (congrArg (fun i => LRL_law_12[i]?) (show 16 + k - 16 = k by omega))
theorem LBL_lawr_13 (k : Nat) : cL_law.data.toList[208 + k]? = LRL_law_13[k]? := by
  have h := LBL_lawr_12 (16 + k)
  rw [show 192 + (16 + k) = 208 + k by omega] at h
  rw [h]
  exact (List.getElem?_append_right (l₁ := LBL_law_12) (l₂ := LRL_law_13) (show 16 ≤ 16 + k by omega)).trans (congrArg (fun i => LRL_law_13[i]?) (show 16 + k - 16 = k by omega))
theorem LBL_lawr_14 (k : Nat) : cL_law.data.toList[224 + k]? = LRL_law_14[k]? := by
  have h := LBL_lawr_13 (16 + k)
  rw [show 208 + (16 + k) = 224 + k by omega] at h
  rw [h]
  exact (List.getElem?_append_right (l₁ := LBL_law_13) (l₂ := LRL_law_14) (show 16 ≤ 16 + k by omega)).trans (congrArg (fun i => LRL_law_14[i]?) (show 16 + k - 16 = k by omega))
theorem LBL_lawr_15 (k : Nat) : cL_law.data.toList[240 + k]? = LRL_law_15[k]? := by
  have h := LBL_lawr_14 (16 + k)
  rw [show 224 + (16 + k) = 240 + k by omega] at h
  rw [h]
  exact (List.getElem?_append_right (l₁ := LBL_law_14) (l₂ := LRL_law_15) (show 16 ≤ 16 + k by omega)).trans (congrArg (fun i => LRL_law_15[i]?) (show 16 + k - 16 = k by omega))
theorem LBL_lawr_16 (k : Nat) : cL_law.data.toList[256 + k]? = LRL_law_16[k]? := by
  have h := LBL_lawr_15 (16 + k)
  rw [show 240 + (16 + k) = 256 + k by omega] at h
  rw [h]
  exact (List.getElem?_append_right (l₁ := LBL_law_15) (l₂ := LRL_law_16) (show 16 ≤ 16 + k by omega)).trans (congrArg (fun i => LRL_law_16[i]?) (show 16 + k - 16 = k by omega))
theorem LBL_lawr_17 (k : Nat) : cL_law.data.toList[272 + k]? = LRL_law_17[k]? := by
  have h := LBL_lawr_16 (16 + k)
  rw [show 256 + (16 + k) = 272 + k by omega] at h
  rw [h]
  exact (List.getElem?_append_right (l₁ := LBL_law_16) (l₂ := LRL_law_17) (show 16 ≤ 16 + k by omega)).trans (congrArg (fun i => LRL_law_17[i]?) (show 16 + k - 16 = k by omega))
theorem LBL_lawr_18 (k : Nat) : cL_law.data.toList[288 + k]? = LRL_law_18[k]? := by
  have h := LBL_lawr_17 (16 + k)
  rw [show 272 + (16 + k) = 288 + k by omega] at h
  rw [h]
  exact (List.getElem?_append_right (l₁ := LBL_law_17) (l₂ := LRL_law_18) (show 16 ≤ 16 + k by omega)).trans (congrArg (fun i => LRL_law_18[i]?) (show 16 + k - 16 = k by omega))
theorem LBL_lawr_19 (k : Nat) : cL_law.data.toList[304 + k]? = LRL_law_19[k]? := by
  have h := LBL_lawr_18 (16 + k)
  rw [show 288 + (16 + k) = 304 + k by omega] at h
  rw [h]
  exact (List.getElem?_append_right (l₁ := LBL_law_18) (l₂ := LRL_law_19) (show 16 ≤ 16 + k by omega)).trans (congrArg (fun i => LRL_law_19[i]?) (show 16 + k - 16 = k by omega))
theorem LBL_lawr_20 (k : Nat) : cL_law.data.toList[320 + k]? = LRL_law_20[k]? := by
  have h := LBL_lawr_19 (16 + k)
  rw [show 304 + (16 + k) = 320 + k by omega] at h
  rw [h]
  exact (List.getElem?_append_right (l₁ := LBL_law_19) (l₂ := LRL_law_20) (show 16 ≤ 16 + k by omega)).trans (congrArg (fun i => LRL_law_20[i]?) (show 16 + k - 16 = k by omega))
theorem LBL_lawr_21 (k : Nat) : cL_law.data.toList[336 + k]? = LRL_law_21[k]? := by
  have h := LBL_lawr_20 (16 + k)
  rw [show 320 + (16 + k) = 336 + k by omega] at h
  rw [h]
  exact (List.getElem?_append_right (l₁ := LBL_law_20) (l₂ := LRL_law_21) (show 16 ≤ 16 + k by omega)).trans (congrArg (fun i => LRL_law_21[i]?) (show 16 + k - 16 = k by omega))
theorem LBL_lawr_22 (k : Nat) : cL_law.data.toList[352 + k]? = LRL_law_22[k]? := by
  have h := LBL_lawr_21 (16 + k)
  rw [show 336 + (16 + k) = 352 + k by omega] at h
  rw [h]
  exact (List.getElem?_append_right (l₁ := LBL_law_21) (l₂ := LRL_law_22) (show 16 ≤ 16 + k by omega)).trans (congrArg (fun i => LRL_law_22[i]?) (show 16 + k - 16 = k by omega))
theorem LBL_lawr_23 (k : Nat) : cL_law.data.toList[368 + k]? = LRL_law_23[k]? := by
  have h := LBL_lawr_22 (16 + k)
  rw [show 352 + (16 + k) = 368 + k by omega] at h
  rw [h]
  exact (List.getElem?_append_right (l₁ := LBL_law_22) (l₂ := LRL_law_23) (show 16 ≤ 16 + k by omega)).trans (congrArg (fun i => LRL_law_23[i]?) (show 16 + k - 16 = k by omega))
theorem LBL_lawr_24 (k : Nat) : cL_law.data.toList[384 + k]? = LRL_law_24[k]? := by
  have h := LBL_lawr_23 (16 + k)
  rw [show 368 + (16 + k) = 384 + k by omega] at h
  rw [h]
  exact (List.getElem?_append_right (l₁ := LBL_law_23) (l₂ := LRL_law_24) (show 16 ≤ 16 + k by omega)).trans (congrArg (fun i => LRL_law_24[i]?) (show 16 + k - 16 = k by omega))
theorem LBL_lawr_25 (k : Nat) : cL_law.data.toList[400 + k]? = LRL_law_25[k]? := by
  have h := LBL_lawr_24 (16 + k)
  rw [show 384 + (16 + k) = 400 + k by omega] at h
  rw [h]
  exact (List.getElem?_append_right (l₁ := LBL_law_24) (l₂ := LRL_law_25) (show 16 ≤ 16 + k by omega)).trans (congrArg (fun i => LRL_law_25[i]?) (show 16 + k - 16 = k by omega))
theorem LBL_lawr_26 (k : Nat) : cL_law.data.toList[416 + k]? = LRL_law_26[k]? := by
  have h := LBL_lawr_25 (16 + k)
  rw [show 400 + (16 + k) = 416 + k by omega] at h
  rw [h]
  exact (List.getElem?_append_right (l₁ := LBL_law_25) (l₂ := LRL_law_26) (show 16 ≤ 16 + k by omega)).trans (congrArg (fun i => LRL_law_26[i]?) (show 16 + k - 16 = k by omega))
theorem LBL_lawr_27 (k : Nat) : cL_law.data.toList[432 + k]? = LRL_law_27[k]? := by
  have h := LBL_lawr_26 (16 + k)
  rw [show 416 + (16 + k) = 432 + k by omega] at h
  rw [h]
  exact (List.getElem?_append_right (l₁ := LBL_law_26) (l₂ := LRL_law_27) (show 16 ≤ 16 + k by omega)).trans (congrArg (fun i => LRL_law_27[i]?) (show 16 + k - 16 = k by omega))
theorem LBL_lawr_28 (k : Nat) : cL_law.data.toList[448 + k]? = LRL_law_28[k]? := by
  have h := LBL_lawr_27 (16 + k)
  rw [show 432 + (16 + k) = 448 + k by omega] at h
  rw [h]
  exact (List.getElem?_append_right (l₁ := LBL_law_27) (l₂ := LRL_law_28) (show 16 ≤ 16 + k by omega)).trans (congrArg (fun i => LRL_law_28[i]?) (show 16 + k - 16 = k by omega))
theorem LBL_lawr_29 (k : Nat) : cL_law.data.toList[464 + k]? = LRL_law_29[k]? := by
  have h := LBL_lawr_28 (16 + k)
  rw [show 448 + (16 + k) = 464 + k by omega] at h
  rw [h]
  exact (List.getElem?_append_right (l₁ := LBL_law_28) (l₂ := LRL_law_29) (show 16 ≤ 16 + k by omega)).trans (congrArg (fun i => LRL_law_29[i]?) (show 16 + k - 16 = k by omega))
theorem LBL_lawr_30 (k : Nat) : cL_law.data.toList[480 + k]? = LRL_law_30[k]? := by
  have h := LBL_lawr_29 (16 + k)
  rw [show 464 + (16 + k) = 480 + k by omega] at h
  rw [h]
  exact (List.getElem?_append_right (l₁ := LBL_law_29) (l₂ := LRL_law_30) (show 16 ≤ 16 + k by omega)).trans (congrArg (fun i => LRL_law_30[i]?) (show 16 + k - 16 = k by omega))
theorem LBL_lawr_31 (k : Nat) : cL_law.data.toList[496 + k]? = LRL_law_31[k]? := by
  have h := LBL_lawr_30 (16 + k)
  rw [show 480 + (16 + k) = 496 + k by omega] at h
  rw [h]
  exact (List.getElem?_append_right (l₁ := LBL_law_30) (l₂ := LRL_law_31) (show 16 ≤ 16 + k by omega)).trans (congrArg (fun i => LRL_law_31[i]?) (show 16 + k - 16 = k by omega))
theorem LBL_lawr_32 (k : Nat) : cL_law.data.toList[512 + k]? = LRL_law_32[k]? := by
  have h := LBL_lawr_31 (16 + k)
  rw [show 496 + (16 + k) = 512 + k by omega] at h
  rw [h]
  exact (List.getElem?_append_right (l₁ := LBL_law_31) (l₂ := LRL_law_32) (show 16 ≤ 16 + k by omega)).trans (congrArg (fun i => LRL_law_32[i]?) (show 16 + k - 16 = k by omega))
theorem LBL_lawr_33 (k : Nat) : cL_law.data.toList[528 + k]? = LRL_law_33[k]? := by
  have h := LBL_lawr_32 (16 + k)
  rw [show 512 + (16 + k) = 528 + k by omega] at h
  rw [h]
  exact (List.getElem?_append_right (l₁ := LBL_law_32) (l₂ := LRL_law_33) (show 16 ≤ 16 + k by omega)).trans (congrArg (fun i => LRL_law_33[i]?) (show 16 + k - 16 = k by omega))
theorem LBL_lawr_34 (k : Nat) : cL_law.data.toList[544 + k]? = LRL_law_34[k]? := by
  have h := LBL_lawr_33 (16 + k)
  rw [show 528 + (16 + k) = 544 + k by omega] at h
  rw [h]
  exact (List.getElem?_append_right (l₁ := LBL_law_33) (l₂ := LRL_law_34) (show 16 ≤ 16 + k by omega)).trans (congrArg (fun i => LRL_law_34[i]?) (show 16 + k - 16 = k by omega))
theorem LBL_lawr_35 (k : Nat) : cL_law.data.toList[560 + k]? = LRL_law_35[k]? := by
  have h := LBL_lawr_34 (16 + k)
  rw [show 544 + (16 + k) = 560 + k by omega] at h
  rw [h]
  exact (List.getElem?_append_right (l₁ := LBL_law_34) (l₂ := LRL_law_35) (show 16 ≤ 16 + k by omega)).trans (congrArg (fun i => LRL_law_35[i]?) (show 16 + k - 16 = k by omega))
theorem LBL_lawr_36 (k : Nat) : cL_law.data.toList[576 + k]? = LRL_law_36[k]? := by
  have h := LBL_lawr_35 (16 + k)
  rw [show 560 + (16 + k) = 576 + k by omega] at h
  rw [h]
  exact (List.getElem?_append_right (l₁ := LBL_law_35) (l₂ := LRL_law_36) (show 16 ≤ 16 + k by omega)).trans (congrArg (fun i => LRL_law_36[i]?) (show 16 + k - 16 = k by omega))
theorem LBL_lawr_37 (k : Nat) : cL_law.data.toList[592 + k]? = LRL_law_37[k]? := by
  have h := LBL_lawr_36 (16 + k)
  rw [show 576 + (16 + k) = 592 + k by omega] at h
  rw [h]
  exact (List.getElem?_append_right (l₁ := LBL_law_36) (l₂ := LRL_law_37) (show 16 ≤ 16 + k by omega)).trans (congrArg (fun i => LRL_law_37[i]?) (show 16 + k - 16 = k by omega))
theorem LBL_lawr_38 (k : Nat) : cL_law.data.toList[608 + k]? = LRL_law_38[k]? := by
  have h := LBL_lawr_37 (16 + k)
  rw [show 592 + (16 + k) = 608 + k by omega] at h
  rw [h]
  exact (List.getElem?_append_right (l₁ := LBL_law_37) (l₂ := LRL_law_38) (show 16 ≤ 16 + k by omega)).trans (congrArg (fun i => LRL_law_38[i]?) (show 16 + k - 16 = k by omega))
theorem LBL_lawr_39 (k : Nat) : cL_law.data.toList[624 + k]? = LRL_law_39[k]? := by
  have h := LBL_lawr_38 (16 + k)
  rw [show 608 + (16 + k) = 624 + k by omega] at h
  rw [h]
  exact (List.getElem?_append_right (l₁ := LBL_law_38) (l₂ := LRL_law_39) (show 16 ≤ 16 + k by omega)).trans (congrArg (fun i => LRL_law_39[i]?) (show 16 + k - 16 = k by omega))
theorem LBL_lawr_40 (k : Nat) : cL_law.data.toList[640 + k]? = LRL_law_40[k]? := by
  have h := LBL_lawr_39 (16 + k)
  rw [show 624 + (16 + k) = 640 + k by omega] at h
  rw [h]
  exact (List.getElem?_append_right (l₁ := LBL_law_39) (l₂ := LRL_law_40) (show 16 ≤ 16 + k by omega)).trans (congrArg (fun i => LRL_law_40[i]?) (show 16 + k - 16 = k by omega))
theorem LBL_lawr_41 (k : Nat) : cL_law.data.toList[656 + k]? = LRL_law_41[k]? := by
  have h := LBL_lawr_40 (16 + k)
  rw [show 640 + (16 + k) = 656 + k by omega] at h
  rw [h]
  exact (List.getElem?_append_right (l₁ := LBL_law_40) (l₂ := LRL_law_41) (show 16 ≤ 16 + k by omega)).trans (congrArg (fun i => LRL_law_41[i]?) (show 16 + k - 16 = k by omega))
theorem LBL_lawr_42 (k : Nat) : cL_law.data.toList[672 + k]? = LRL_law_42[k]? := by
  have h := LBL_lawr_41 (16 + k)
  rw [show 656 + (16 + k) = 672 + k by omega] at h
  rw [h]
  exact (List.getElem?_append_right (l₁ := LBL_law_41) (l₂ := LRL_law_42) (show 16 ≤ 16 + k by omega)).trans (congrArg (fun i => LRL_law_42[i]?) (show 16 + k - 16 = k by omega))
theorem LBL_lawr_43 (k : Nat) : cL_law.data.toList[688 + k]? = LRL_law_43[k]? := by
  have h := LBL_lawr_42 (16 + k)
  rw [show 672 + (16 + k) = 688 + k by omega] at h
  rw [h]
  exact (List.getElem?_append_right (l₁ := LBL_law_42) (l₂ := LRL_law_43) (show 16 ≤ 16 + k by omega)).trans (congrArg (fun i => LRL_law_43[i]?) (show 16 + k - 16 = k by omega))
theorem LBL_lawr_44 (k : Nat) : cL_law.data.toList[704 + k]? = LRL_law_44[k]? := by
  have h := LBL_lawr_43 (16 + k)
  rw [show 688 + (16 + k) = 704 + k by omega] at h
  rw [h]
  exact (List.getElem?_append_right (l₁ := LBL_law_43) (l₂ := LRL_law_44) (show 16 ≤ 16 + k by omega)).trans (congrArg (fun i => LRL_law_44[i]?) (show 16 + k - 16 = k by omega))
theorem LBL_lawr_45 (k : Nat) : cL_law.data.toList[720 + k]? = LRL_law_45[k]? := by
  have h := LBL_lawr_44 (16 + k)
  rw [show 704 + (16 + k) = 720 + k by omega] at h
  rw [h]
  exact (List.getElem?_append_right (l₁ := LBL_law_44) (l₂ := LRL_law_45) (show 16 ≤ 16 + k by omega)).trans (congrArg (fun i => LRL_law_45[i]?) (show 16 + k - 16 = k by omega))
theorem LBL_lawr_46 (k : Nat) : cL_law.data.toList[736 + k]? = LRL_law_46[k]? := by
  have h := LBL_lawr_45 (16 + k)
  rw [show 720 + (16 + k) = 736 + k by omega] at h
  rw [h]
  exact (List.getElem?_append_right (l₁ := LBL_law_45) (l₂ := LRL_law_46) (show 16 ≤ 16 + k by omega)).trans (congrArg (fun i => LRL_law_46[i]?) (show 16 + k - 16 = k by omega))
theorem LBL_lawr_47 (k : Nat) : cL_law.data.toList[752 + k]? = LRL_law_47[k]? := by
  have h := LBL_lawr_46 (16 + k)
  rw [show 736 + (16 + k) = 752 + k by omega] at h
  rw [h]
  exact (List.getElem?_append_right (l₁ := LBL_law_46) (l₂ := LRL_law_47) (show 16 ≤ 16 + k by omega)).trans (congrArg (fun i => LRL_law_47[i]?) (show 16 + k - 16 = k by omega))
theorem LBL_lawr_48 (k : Nat) : cL_law.data.toList[768 + k]? = LRL_law_48[k]? := by
  have h := LBL_lawr_47 (16 + k)
  rw [show 752 + (16 + k) = 768 + k by omega] at h
  rw [h]
  exact (List.getElem?_append_right (l₁ := LBL_law_47) (l₂ := LRL_law_48) (show 16 ≤ 16 + k by omega)).trans (congrArg (fun i => LRL_law_48[i]?) (show 16 + k - 16 = k by omega))
theorem LBL_lawr_49 (k : Nat) : cL_law.data.toList[784 + k]? = LRL_law_49[k]? := by
  have h := LBL_lawr_48 (16 + k)
  rw [show 768 + (16 + k) = 784 + k by omega] at h
  rw [h]
  exact (List.getElem?_append_right (l₁ := LBL_law_48) (l₂ := LRL_law_49) (show 16 ≤ 16 + k by omega)).trans (congrArg (fun i => LRL_law_49[i]?) (show 16 + k - 16 = k by omega))
theorem LBL_lawr_50 (k : Nat) : cL_law.data.toList[800 + k]? = LRL_law_50[k]? := by
  have h := LBL_lawr_49 (16 + k)
  rw [show 784 + (16 + k) = 800 + k by omega] at h
  rw [h]
  exact (List.getElem?_append_right (l₁ := LBL_law_49) (l₂ := LRL_law_50) (show 16 ≤ 16 + k by omega)).trans (congrArg (fun i => LRL_law_50[i]?) (show 16 + k - 16 = k by omega))
theorem LBL_lawr_51 (k : Nat) : cL_law.data.toList[816 + k]? = LRL_law_51[k]? := by
  have h := LBL_lawr_50 (16 + k)
  rw [show 800 + (16 + k) = 816 + k by omega] at h
  rw [h]
  exact (List.getElem?_append_right (l₁ := LBL_law_50) (l₂ := LRL_law_51) (show 16 ≤ 16 + k by omega)).trans (congrArg (fun i => LRL_law_51[i]?) (show 16 + k - 16 = k by omega))
theorem LBL_lawr_52 (k : Nat) : cL_law.data.toList[832 + k]? = LRL_law_52[k]? := by
  have h := LBL_lawr_51 (16 + k)
  rw [show 816 + (16 + k) = 832 + k by omega] at h
  rw [h]
  exact (List.getElem?_append_right (l₁ := LBL_law_51) (l₂ := LRL_law_52) (show 16 ≤ 16 + k by omega)).trans (congrArg (fun i => LRL_law_52[i]?) (show 16 + k - 16 = k by omega))
theorem LBL_lawr_53 (k : Nat) : cL_law.data.toList[848 + k]? = LRL_law_53[k]? := by
  have h := LBL_lawr_52 (16 + k)
  rw [show 832 + (16 + k) = 848 + k by omega] at h
  rw [h]
  exact (List.getElem?_append_right (l₁ := LBL_law_52) (l₂ := LRL_law_53) (show 16 ≤ 16 + k by omega)).trans (congrArg (fun i => LRL_law_53[i]?) (show 16 + k - 16 = k by omega))
theorem LBL_lawr_54 (k : Nat) : cL_law.data.toList[864 + k]? = LRL_law_54[k]? := by
  have h := LBL_lawr_53 (16 + k)
  rw [show 848 + (16 + k) = 864 + k by omega] at h
  rw [h]
  exact (List.getElem?_append_right (l₁ := LBL_law_53) (l₂ := LRL_law_54) (show 16 ≤ 16 + k by omega)).trans (congrArg (fun i => LRL_law_54[i]?) (show 16 + k - 16 = k by omega))
theorem LBL_lawr_55 (k : Nat) : cL_law.data.toList[880 + k]? = LRL_law_55[k]? := by
  have h := LBL_lawr_54 (16 + k)
  rw [show 864 + (16 + k) = 880 + k by omega] at h
  rw [h]
  exact (List.getElem?_append_right (l₁ := LBL_law_54) (l₂ := LRL_law_55) (show 16 ≤ 16 + k by omega)).trans (congrArg (fun i => LRL_law_55[i]?) (show 16 + k - 16 = k by omega))
theorem LBL_lawr_56 (k : Nat) : cL_law.data.toList[896 + k]? = LRL_law_56[k]? := by
  have h := LBL_lawr_55 (16 + k)
  rw [show 880 + (16 + k) = 896 + k by omega] at h
  rw [h]
  exact (List.getElem?_append_right (l₁ := LBL_law_55) (l₂ := LRL_law_56) (show 16 ≤ 16 + k by omega)).trans (congrArg (fun i => LRL_law_56[i]?) (show 16 + k - 16 = k by omega))
theorem LBL_lawr_57 (k : Nat) : cL_law.data.toList[912 + k]? = LRL_law_57[k]? := by
  have h := LBL_lawr_56 (16 + k)
  rw [show 896 + (16 + k) = 912 + k by omega] at h
  rw [h]
  exact (List.getElem?_append_right (l₁ := LBL_law_56) (l₂ := LRL_law_57) (show 16 ≤ 16 + k by omega)).trans (congrArg (fun i => LRL_law_57[i]?) (show 16 + k - 16 = k by omega))
theorem LBL_lawr_58 (k : Nat) : cL_law.data.toList[928 + k]? = LRL_law_58[k]? := by
  have h := LBL_lawr_57 (16 + k)
  rw [show 912 + (16 + k) = 928 + k by omega] at h
  rw [h]
  exact (List.getElem?_append_right (l₁ := LBL_law_57) (l₂ := LRL_law_58) (show 16 ≤ 16 + k by omega)).trans (congrArg (fun i => LRL_law_58[i]?) (show 16 + k - 16 = k by omega))
theorem LBL_lawr_59 (k : Nat) : cL_law.data.toList[944 + k]? = LRL_law_59[k]? := by
  have h := LBL_lawr_58 (16 + k)
  rw [show 928 + (16 + k) = 944 + k by omega] at h
  rw [h]
  exact (List.getElem?_append_right (l₁ := LBL_law_58) (l₂ := LRL_law_59) (show 16 ≤ 16 + k by omega)).trans (congrArg (fun i => LRL_law_59[i]?) (show 16 + k - 16 = k by omega))
theorem LBL_lawr_60 (k : Nat) : cL_law.data.toList[960 + k]? = LRL_law_60[k]? := by
  have h := LBL_lawr_59 (16 + k)
  rw [show 944 + (16 + k) = 960 + k by omega] at h
  rw [h]
  exact (List.getElem?_append_right (l₁ := LBL_law_59) (l₂ := LRL_law_60) (show 16 ≤ 16 + k by omega)).trans (congrArg (fun i => LRL_law_60[i]?) (show 16 + k - 16 = k by omega))
theorem LBL_lawr_61 (k : Nat) : cL_law.data.toList[976 + k]? = LRL_law_61[k]? := by
  have h := LBL_lawr_60 (16 + k)
  rw [show 960 + (16 + k) = 976 + k by omega] at h
  rw [h]
  exact (List.getElem?_append_right (l₁ := LBL_law_60) (l₂ := LRL_law_61) (show 16 ≤ 16 + k by omega)).trans (congrArg (fun i => LRL_law_61[i]?) (show 16 + k - 16 = k by omega))
theorem LBL_lawr_62 (k : Nat) : cL_law.data.toList[992 + k]? = LRL_law_62[k]? := by
  have h := LBL_lawr_61 (16 + k)
  rw [show 976 + (16 + k) = 992 + k by omega] at h
  rw [h]
  exact (List.getElem?_append_right (l₁ := LBL_law_61) (l₂ := LRL_law_62) (show 16 ≤ 16 + k by omega)).trans (congrArg (fun i => LRL_law_62[i]?) (show 16 + k - 16 = k by omega))
theorem LBL_lawr_63 (k : Nat) : cL_law.data.toList[1008 + k]? = LRL_law_63[k]? := by
  have h := LBL_lawr_62 (16 + k)
  rw [show 992 + (16 + k) = 1008 + k by omega] at h
  rw [h]
  exact (List.getElem?_append_right (l₁ := LBL_law_62) (l₂ := LRL_law_63) (show 16 ≤ 16 + k by omega)).trans (congrArg (fun i => LRL_law_63[i]?) (show 16 + k - 16 = k by omega))
theorem LBL_lawr_64 (k : Nat) : cL_law.data.toList[1024 + k]? = LRL_law_64[k]? := by
  have h := LBL_lawr_63 (16 + k)
  rw [show 1008 + (16 + k) = 1024 + k by omega] at h
  rw [h]
  exact (List.getElem?_append_right (l₁ := LBL_law_63) (l₂ := LRL_law_64) (show 16 ≤ 16 + k by omega)).trans (congrArg (fun i => LRL_law_64[i]?) (show 16 + k - 16 = k by omega))
theorem LBL_lawr_65 (k : Nat) : cL_law.data.toList[1040 + k]? = LRL_law_65[k]? := by
  have h := LBL_lawr_64 (16 + k)
  rw [show 1024 + (16 + k) = 1040 + k by omega] at h
  rw [h]
  exact (List.getElem?_append_right (l₁ := LBL_law_64) (l₂ := LRL_law_65) (show 16 ≤ 16 + k by omega)).trans (congrArg (fun i => LRL_law_65[i]?) (show 16 + k - 16 = k by omega))
theorem LBL_lawr_66 (k : Nat) : cL_law.data.toList[1056 + k]? = LRL_law_66[k]? := by
  have h := LBL_lawr_65 (16 + k)
  rw [show 1040 + (16 + k) = 1056 + k by omega] at h
  rw [h]
  exact (List.getElem?_append_right (l₁ := LBL_law_65) (l₂ := LRL_law_66) (show 16 ≤ 16 + k by omega)).trans (congrArg (fun i => LRL_law_66[i]?) (show 16 + k - 16 = k by omega))
theorem LBL_lawr_67 (k : Nat) : cL_law.data.toList[1072 + k]? = LRL_law_67[k]? := by
  have h := LBL_lawr_66 (16 + k)
  rw [show 1056 + (16 + k) = 1072 + k by omega] at h
  rw [h]
  exact (List.getElem?_append_right (l₁ := LBL_law_66) (l₂ := LRL_law_67) (show 16 ≤ 16 + k by omega)).trans (congrArg (fun i => LRL_law_67[i]?) (show 16 + k - 16 = k by omega))
theorem LBL_lawr_68 (k : Nat) : cL_law.data.toList[1088 + k]? = LRL_law_68[k]? := by
  have h := LBL_lawr_67 (16 + k)
  rw [show 1072 + (16 + k) = 1088 + k by omega] at h
  rw [h]
  exact (List.getElem?_append_right (l₁ := LBL_law_67) (l₂ := LRL_law_68) (show 16 ≤ 16 + k by omega)).trans (congrArg (fun i => LRL_law_68[i]?) (show 16 + k - 16 = k by omega))
theorem LBL_lawr_69 (k : Nat) : cL_law.data.toList[1104 + k]? = LRL_law_69[k]? := by
  have h := LBL_lawr_68 (16 + k)
  rw [show 1088 + (16 + k) = 1104 + k by omega] at h
  rw [h]
  exact (List.getElem?_append_right (l₁ := LBL_law_68) (l₂ := LRL_law_69) (show 16 ≤ 16 + k by omega)).trans (congrArg (fun i => LRL_law_69[i]?) (show 16 + k - 16 = k by omega))
theorem LBL_lawr_70 (k : Nat) : cL_law.data.toList[1120 + k]? = LRL_law_70[k]? := by
  have h := LBL_lawr_69 (16 + k)
  rw [show 1104 + (16 + k) = 1120 + k by omega] at h
  rw [h]
  exact (List.getElem?_append_right (l₁ := LBL_law_69) (l₂ := LRL_law_70) (show 16 ≤ 16 + k by omega)).trans (congrArg (fun i => LRL_law_70[i]?) (show 16 + k - 16 = k by omega))
theorem LBL_lawr_71 (k : Nat) : cL_law.data.toList[1136 + k]? = LRL_law_71[k]? := by
  have h := LBL_lawr_70 (16 + k)
  rw [show 1120 + (16 + k) = 1136 + k by omega] at h
  rw [h]
  exact (List.getElem?_append_right (l₁ := LBL_law_70) (l₂ := LRL_law_71) (show 16 ≤ 16 + k by omega)).trans (congrArg (fun i => LRL_law_71[i]?) (show 16 + k - 16 = k by omega))
theorem LBL_lawr_72 (k : Nat) : cL_law.data.toList[1152 + k]? = LRL_law_72[k]? := by
  have h := LBL_lawr_71 (16 + k)
  rw [show 1136 + (16 + k) = 1152 + k by omega] at h
  rw [h]
  exact (List.getElem?_append_right (l₁ := LBL_law_71) (l₂ := LRL_law_72) (show 16 ≤ 16 + k by omega)).trans (congrArg (fun i => LRL_law_72[i]?) (show 16 + k - 16 = k by omega))
theorem LBL_lawr_73 (k : Nat) : cL_law.data.toList[1168 + k]? = LRL_law_73[k]? := by
  have h := LBL_lawr_72 (16 + k)
  rw [show 1152 + (16 + k) = 1168 + k by omega] at h
  rw [h]
  exact (List.getElem?_append_right (l₁ := LBL_law_72) (l₂ := LRL_law_73) (show 16 ≤ 16 + k by omega)).trans (congrArg (fun i => LRL_law_73[i]?) (show 16 + k - 16 = k by omega))
theorem LBL_lawr_74 (k : Nat) : cL_law.data.toList[1184 + k]? = LRL_law_74[k]? := by
  have h := LBL_lawr_73 (16 + k)
  rw [show 1168 + (16 + k) = 1184 + k by omega] at h
  rw [h]
  exact (List.getElem?_append_right (l₁ := LBL_law_73) (l₂ := LRL_law_74) (show 16 ≤ 16 + k by omega)).trans (congrArg (fun i => LRL_law_74[i]?) (show 16 + k - 16 = k by omega))
theorem LBL_lawr_75 (k : Nat) : cL_law.data.toList[1200 + k]? = LRL_law_75[k]? := by
  have h := LBL_lawr_74 (16 + k)
  rw [show 1184 + (16 + k) = 1200 + k by omega] at h
  rw [h]
  exact (List.getElem?_append_right (l₁ := LBL_law_74) (l₂ := LRL_law_75) (show 16 ≤ 16 + k by omega)).trans (congrArg (fun i => LRL_law_75[i]?) (show 16 + k - 16 = k by omega))
theorem LBL_lawr_76 (k : Nat) : cL_law.data.toList[1216 + k]? = LRL_law_76[k]? := by
  have h := LBL_lawr_75 (16 + k)
  rw [show 1200 + (16 + k) = 1216 + k by omega] at h
  rw [h]
  exact (List.getElem?_append_right (l₁ := LBL_law_75) (l₂ := LRL_law_76) (show 16 ≤ 16 + k by omega)).trans (congrArg (fun i => LRL_law_76[i]?) (show 16 + k - 16 = k by omega))
theorem LBL_lawr_77 (k : Nat) : cL_law.data.toList[1232 + k]? = LRL_law_77[k]? := by
  have h := LBL_lawr_76 (16 + k)
  rw [show 1216 + (16 + k) = 1232 + k by omega] at h
  rw [h]
  exact (List.getElem?_append_right (l₁ := LBL_law_76) (l₂ := LRL_law_77) (show 16 ≤ 16 + k by omega)).trans (congrArg (fun i => LRL_law_77[i]?) (show 16 + k - 16 = k by omega))
theorem LBL_lawr_78 (k : Nat) : cL_law.data.toList[1248 + k]? = LRL_law_78[k]? := by
  have h := LBL_lawr_77 (16 + k)
  rw [show 1232 + (16 + k) = 1248 + k by omega] at h
  rw [h]
  exact (List.getElem?_append_right (l₁ := LBL_law_77) (l₂ := LRL_law_78) (show 16 ≤ 16 + k by omega)).trans (congrArg (fun i => LRL_law_78[i]?) (show 16 + k - 16 = k by omega))
theorem LBL_lawr_79 (k : Nat) : cL_law.data.toList[1264 + k]? = LRL_law_79[k]? := by
  have h := LBL_lawr_78 (16 + k)
  rw [show 1248 + (16 + k) = 1264 + k by omega] at h
  rw [h]
  exact (List.getElem?_append_right (l₁ := LBL_law_78) (l₂ := LRL_law_79) (show 16 ≤ 16 + k by omega)).trans (congrArg (fun i => LRL_law_79[i]?) (show 16 + k - 16 = k by omega))
theorem LBL_lawr_80 (k : Nat) : cL_law.data.toList[1280 + k]? = LRL_law_80[k]? := by
  have h := LBL_lawr_79 (16 + k)
  rw [show 1264 + (16 + k) = 1280 + k by omega] at h
  rw [h]
  exact (List.getElem?_append_right (l₁ := LBL_law_79) (l₂ := LRL_law_80) (show 16 ≤ 16 + k by omega)).trans (congrArg (fun i => LRL_law_80[i]?) (show 16 + k - 16 = k by omega))
theorem LBL_lawr_81 (k : Nat) : cL_law.data.toList[1296 + k]? = LRL_law_81[k]? := by
  have h := LBL_lawr_80 (16 + k)
  rw [show 1280 + (16 + k) = 1296 + k by omega] at h
  rw [h]
  exact (List.getElem?_append_right (l₁ := LBL_law_80) (l₂ := LRL_law_81) (show 16 ≤ 16 + k by omega)).trans (congrArg (fun i => LRL_law_81[i]?) (show 16 + k - 16 = k by omega))
theorem LBL_lawr_82 (k : Nat) : cL_law.data.toList[1312 + k]? = LRL_law_82[k]? := by
  have h := LBL_lawr_81 (16 + k)
  rw [show 1296 + (16 + k) = 1312 + k by omega] at h
  rw [h]
  exact (List.getElem?_append_right (l₁ := LBL_law_81) (l₂ := LRL_law_82) (show 16 ≤ 16 + k by omega)).trans (congrArg (fun i => LRL_law_82[i]?) (show 16 + k - 16 = k by omega))
theorem LBL_lawr_83 (k : Nat) : cL_law.data.toList[1328 + k]? = LRL_law_83[k]? := by
  have h := LBL_lawr_82 (16 + k)
  rw [show 1312 + (16 + k) = 1328 + k by omega] at h
  rw [h]
  exact (List.getElem?_append_right (l₁ := LBL_law_82) (l₂ := LRL_law_83) (show 16 ≤ 16 + k by omega)).trans (congrArg (fun i => LRL_law_83[i]?) (show 16 + k - 16 = k by omega))
theorem LBL_lawr_84 (k : Nat) : cL_law.data.toList[1344 + k]? = LRL_law_84[k]? := by
  have h := LBL_lawr_83 (16 + k)
  rw [show 1328 + (16 + k) = 1344 + k by omega] at h
  rw [h]
  exact (List.getElem?_append_right (l₁ := LBL_law_83) (l₂ := LRL_law_84) (show 16 ≤ 16 + k by omega)).trans (congrArg (fun i => LRL_law_84[i]?) (show 16 + k - 16 = k by omega))
theorem LBL_lawr_85 (k : Nat) : cL_law.data.toList[1360 + k]? = LRL_law_85[k]? := by
  have h := LBL_lawr_84 (16 + k)
  rw [show 1344 + (16 + k) = 1360 + k by omega] at h
  rw [h]
  exact (List.getElem?_append_right (l₁ := LBL_law_84) (l₂ := LRL_law_85) (show 16 ≤ 16 + k by omega)).trans (congrArg (fun i => LRL_law_85[i]?) (show 16 + k - 16 = k by omega))
theorem LBL_lawr_86 (k : Nat) : cL_law.data.toList[1376 + k]? = LRL_law_86[k]? := by
  have h := LBL_lawr_85 (16 + k)
  rw [show 1360 + (16 + k) = 1376 + k by omega] at h
  rw [h]
  exact (List.getElem?_append_right (l₁ := LBL_law_85) (l₂ := LRL_law_86) (show 16 ≤ 16 + k by omega)).trans (congrArg (fun i => LRL_law_86[i]?) (show 16 + k - 16 = k by omega))
theorem LBL_lawr_87 (k : Nat) : cL_law.data.toList[1392 + k]? = LRL_law_87[k]? := by
  have h := LBL_lawr_86 (16 + k)
  rw [show 1376 + (16 + k) = 1392 + k by omega] at h
  rw [h]
  exact (List.getElem?_append_right (l₁ := LBL_law_86) (l₂ := LRL_law_87) (show 16 ≤ 16 + k by omega)).trans (congrArg (fun i => LRL_law_87[i]?) (show 16 + k - 16 = k by omega))
theorem LBL_lawr_88 (k : Nat) : cL_law.data.toList[1408 + k]? = LRL_law_88[k]? := by
  have h := LBL_lawr_87 (16 + k)
  rw [show 1392 + (16 + k) = 1408 + k by omega] at h
  rw [h]
  exact (List.getElem?_append_right (l₁ := LBL_law_87) (l₂ := LRL_law_88) (show 16 ≤ 16 + k by omega)).trans (congrArg (fun i => LRL_law_88[i]?) (show 16 + k - 16 = k by omega))
theorem LBL_lawr_89 (k : Nat) : cL_law.data.toList[1424 + k]? = LRL_law_89[k]? := by
  have h := LBL_lawr_88 (16 + k)
  rw [show 1408 + (16 + k) = 1424 + k by omega] at h
  rw [h]
  exact (List.getElem?_append_right (l₁ := LBL_law_88) (l₂ := LRL_law_89) (show 16 ≤ 16 + k by omega)).trans (congrArg (fun i => LRL_law_89[i]?) (show 16 + k - 16 = k by omega))
theorem LBL_lawr_90 (k : Nat) : cL_law.data.toList[1440 + k]? = LRL_law_90[k]? := by
  have h := LBL_lawr_89 (16 + k)
  rw [show 1424 + (16 + k) = 1440 + k by omega] at h
  rw [h]
  exact (List.getElem?_append_right (l₁ := LBL_law_89) (l₂ := LRL_law_90) (show 16 ≤ 16 + k by omega)).trans (congrArg (fun i => LRL_law_90[i]?) (show 16 + k - 16 = k by omega))
theorem LBL_lawr_91 (k : Nat) : cL_law.data.toList[1456 + k]? = LRL_law_91[k]? := by
  have h := LBL_lawr_90 (16 + k)
  rw [show 1440 + (16 + k) = 1456 + k by omega] at h
  rw [h]
  exact (List.getElem?_append_right (l₁ := LBL_law_90) (l₂ := LRL_law_91) (show 16 ≤ 16 + k by omega)).trans (congrArg (fun i => LRL_law_91[i]?) (show 16 + k - 16 = k by omega))
theorem LBL_lawr_92 (k : Nat) : cL_law.data.toList[1472 + k]? = LRL_law_92[k]? := by
  have h := LBL_lawr_91 (16 + k)
  rw [show 1456 + (16 + k) = 1472 + k by omega] at h
  rw [h]
  exact (List.getElem?_append_right (l₁ := LBL_law_91) (l₂ := LRL_law_92) (show 16 ≤ 16 + k by omega)).trans (congrArg (fun i => LRL_law_92[i]?) (show 16 + k - 16 = k by omega))
theorem LBL_lawr_93 (k : Nat) : cL_law.data.toList[1488 + k]? = LRL_law_93[k]? := by
  have h := LBL_lawr_92 (16 + k)
  rw [show 1472 + (16 + k) = 1488 + k by omega] at h
  rw [h]
  exact (List.getElem?_append_right (l₁ := LBL_law_92) (l₂ := LRL_law_93) (show 16 ≤ 16 + k by omega)).trans (congrArg (fun i => LRL_law_93[i]?) (show 16 + k - 16 = k by omega))
theorem dL_law_0 : decode cL_law 0 = .ok (.new 7, 3) := dk_187_ (show cL_law.data.toList[0]? = some 0xbb from (LBL_lawr_0 0).trans (by decide +kernel)) (show cL_law.data.toList[1]? = some 0x00 from (LBL_lawr_0 1).trans (by decide +kernel)) (show cL_law.data.toList[2]? = some 0x07 from (LBL_lawr_0 2).trans (by decide +kernel)) (by decide)
theorem dL_law_3 : decode cL_law 3 = .ok (.dup, 1) := dk_89_ (show cL_law.data.toList[3]? = some 0x59 from (LBL_lawr_0 3).trans (by decide +kernel))
theorem dL_law_4 : decode cL_law 4 = .ok (.invokespecial 9, 3) := dk_183_ (show cL_law.data.toList[4]? = some 0xb7 from (LBL_lawr_0 4).trans (by decide +kernel)) (show cL_law.data.toList[5]? = some 0x00 from (LBL_lawr_0 5).trans (by decide +kernel)) (show cL_law.data.toList[6]? = some 0x09 from (LBL_lawr_0 6).trans (by decide +kernel)) (by decide)
theorem dL_law_7 : decode cL_law 7 = .ok (.astore_n 1, 1) := dk_76_ (show cL_law.data.toList[7]? = some 0x4c from (LBL_lawr_0 7).trans (by decide +kernel))
theorem dL_law_8 : decode cL_law 8 = .ok (.new 10, 3) := dk_187_ (show cL_law.data.toList[8]? = some 0xbb from (LBL_lawr_0 8).trans (by decide +kernel)) (show cL_law.data.toList[9]? = some 0x00 from (LBL_lawr_0 9).trans (by decide +kernel)) (show cL_law.data.toList[10]? = some 0x0a from (LBL_lawr_0 10).trans (by decide +kernel)) (by decide)
theorem dL_law_11 : decode cL_law 11 = .ok (.dup, 1) := dk_89_ (show cL_law.data.toList[11]? = some 0x59 from (LBL_lawr_0 11).trans (by decide +kernel))
theorem dL_law_12 : decode cL_law 12 = .ok (.invokespecial 12, 3) := dk_183_ (show cL_law.data.toList[12]? = some 0xb7 from (LBL_lawr_0 12).trans (by decide +kernel)) (show cL_law.data.toList[13]? = some 0x00 from (LBL_lawr_0 13).trans (by decide +kernel)) (show cL_law.data.toList[14]? = some 0x0c from (LBL_lawr_0 14).trans (by decide +kernel)) (by decide)
theorem dL_law_15 : decode cL_law 15 = .ok (.astore_n 2, 1) := dk_77_ (show cL_law.data.toList[15]? = some 0x4d from (LBL_lawr_0 15).trans (by decide +kernel))
theorem dL_law_16 : decode cL_law 16 = .ok (.iconst 0, 1) := dk_3_ (show cL_law.data.toList[16]? = some 0x03 from (LBL_lawr_1 0).trans (by decide +kernel))
theorem dL_law_17 : decode cL_law 17 = .ok (.istore_n 3, 1) := dk_62_ (show cL_law.data.toList[17]? = some 0x3e from (LBL_lawr_1 1).trans (by decide +kernel))
theorem dL_law_18 : decode cL_law 18 = .ok (.iload_n 3, 1) := dk_29_ (show cL_law.data.toList[18]? = some 0x1d from (LBL_lawr_1 2).trans (by decide +kernel))
theorem dL_law_19 : decode cL_law 19 = .ok (.aload_n 0, 1) := dk_42_ (show cL_law.data.toList[19]? = some 0x2a from (LBL_lawr_1 3).trans (by decide +kernel))
theorem dL_law_20 : decode cL_law 20 = .ok (.arraylength, 1) := dk_190_ (show cL_law.data.toList[20]? = some 0xbe from (LBL_lawr_1 4).trans (by decide +kernel))
theorem dL_law_21 : decode cL_law 21 = .ok (.bipush 6, 2) := dk_16_ (show cL_law.data.toList[21]? = some 0x10 from (LBL_lawr_1 5).trans (by decide +kernel)) (show cL_law.data.toList[22]? = some 0x06 from (LBL_lawr_1 6).trans (by decide +kernel)) (by decide)
theorem dL_law_23 : decode cL_law 23 = .ok (.isub, 1) := dk_100_ (show cL_law.data.toList[23]? = some 0x64 from (LBL_lawr_1 7).trans (by decide +kernel))
theorem dL_law_24 : decode cL_law 24 = .ok (.if_icmp .gt 1464, 3) := dk_163_ (show cL_law.data.toList[24]? = some 0xa3 from (LBL_lawr_1 8).trans (by decide +kernel)) (show cL_law.data.toList[25]? = some 0x05 from (LBL_lawr_1 9).trans (by decide +kernel)) (show cL_law.data.toList[26]? = some 0xb8 from (LBL_lawr_1 10).trans (by decide +kernel)) (by decide)
theorem dL_law_27 : decode cL_law 27 = .ok (.aload_n 0, 1) := dk_42_ (show cL_law.data.toList[27]? = some 0x2a from (LBL_lawr_1 11).trans (by decide +kernel))
theorem dL_law_28 : decode cL_law 28 = .ok (.iload_n 3, 1) := dk_29_ (show cL_law.data.toList[28]? = some 0x1d from (LBL_lawr_1 12).trans (by decide +kernel))
theorem dL_law_29 : decode cL_law 29 = .ok (.iaload, 1) := dk_46_ (show cL_law.data.toList[29]? = some 0x2e from (LBL_lawr_1 13).trans (by decide +kernel))
theorem dL_law_30 : decode cL_law 30 = .ok (.bipush 63, 2) := dk_16_ (show cL_law.data.toList[30]? = some 0x10 from (LBL_lawr_1 14).trans (by decide +kernel)) (show cL_law.data.toList[31]? = some 0x3f from (LBL_lawr_1 15).trans (by decide +kernel)) (by decide)
theorem dL_law_32 : decode cL_law 32 = .ok (.iand, 1) := dk_126_ (show cL_law.data.toList[32]? = some 0x7e from (LBL_lawr_2 0).trans (by decide +kernel))
theorem dL_law_33 : decode cL_law 33 = .ok (.tableswitch 1449 0 43 #[191, 204, 237, 290, 333, 392, 425, 468, 481, 514, 547, 580, 603, 636, 669, 682, 705, 748, 761, 784, 817, 830, 883, 916, 929, 942, 965, 978, 1011, 1024, 1057, 1070, 1103, 1116, 1129, 1172, 1245, 1308, 1341, 1364, 1377, 1390, 1403, 1426], 191) := by decide +kernel
theorem dL_law_224 : decode cL_law 224 = .ok (.aload_n 1, 1) := dk_43_ (show cL_law.data.toList[224]? = some 0x2b from (LBL_lawr_14 0).trans (by decide +kernel))
theorem dL_law_225 : decode cL_law 225 = .ok (.invokevirtual 13, 3) := dk_182_ (show cL_law.data.toList[225]? = some 0xb6 from (LBL_lawr_14 1).trans (by decide +kernel)) (show cL_law.data.toList[226]? = some 0x00 from (LBL_lawr_14 2).trans (by decide +kernel)) (show cL_law.data.toList[227]? = some 0x0d from (LBL_lawr_14 3).trans (by decide +kernel)) (by decide)
theorem dL_law_228 : decode cL_law 228 = .ok (.pop, 1) := dk_87_ (show cL_law.data.toList[228]? = some 0x57 from (LBL_lawr_14 4).trans (by decide +kernel))
theorem dL_law_229 : decode cL_law 229 = .ok (.aload_n 2, 1) := dk_44_ (show cL_law.data.toList[229]? = some 0x2c from (LBL_lawr_14 5).trans (by decide +kernel))
theorem dL_law_230 : decode cL_law 230 = .ok (.invokevirtual 17, 3) := dk_182_ (show cL_law.data.toList[230]? = some 0xb6 from (LBL_lawr_14 6).trans (by decide +kernel)) (show cL_law.data.toList[231]? = some 0x00 from (LBL_lawr_14 7).trans (by decide +kernel)) (show cL_law.data.toList[232]? = some 0x11 from (LBL_lawr_14 8).trans (by decide +kernel)) (by decide)
theorem dL_law_233 : decode cL_law 233 = .ok (.pop, 1) := dk_87_ (show cL_law.data.toList[233]? = some 0x57 from (LBL_lawr_14 9).trans (by decide +kernel))
theorem dL_law_234 : decode cL_law 234 = .ok (.goto 1248, 3) := dk_167_ (show cL_law.data.toList[234]? = some 0xa7 from (LBL_lawr_14 10).trans (by decide +kernel)) (show cL_law.data.toList[235]? = some 0x04 from (LBL_lawr_14 11).trans (by decide +kernel)) (show cL_law.data.toList[236]? = some 0xe0 from (LBL_lawr_14 12).trans (by decide +kernel)) (by decide)
theorem dL_law_237 : decode cL_law 237 = .ok (.aload_n 1, 1) := dk_43_ (show cL_law.data.toList[237]? = some 0x2b from (LBL_lawr_14 13).trans (by decide +kernel))
theorem dL_law_238 : decode cL_law 238 = .ok (.aload_n 0, 1) := dk_42_ (show cL_law.data.toList[238]? = some 0x2a from (LBL_lawr_14 14).trans (by decide +kernel))
theorem dL_law_239 : decode cL_law 239 = .ok (.iload_n 3, 1) := dk_29_ (show cL_law.data.toList[239]? = some 0x1d from (LBL_lawr_14 15).trans (by decide +kernel))
theorem dL_law_240 : decode cL_law 240 = .ok (.iconst 1, 1) := dk_4_ (show cL_law.data.toList[240]? = some 0x04 from (LBL_lawr_15 0).trans (by decide +kernel))
theorem dL_law_241 : decode cL_law 241 = .ok (.iadd, 1) := dk_96_ (show cL_law.data.toList[241]? = some 0x60 from (LBL_lawr_15 1).trans (by decide +kernel))
theorem dL_law_242 : decode cL_law 242 = .ok (.iaload, 1) := dk_46_ (show cL_law.data.toList[242]? = some 0x2e from (LBL_lawr_15 2).trans (by decide +kernel))
theorem dL_law_243 : decode cL_law 243 = .ok (.aload_n 0, 1) := dk_42_ (show cL_law.data.toList[243]? = some 0x2a from (LBL_lawr_15 3).trans (by decide +kernel))
theorem dL_law_244 : decode cL_law 244 = .ok (.iload_n 3, 1) := dk_29_ (show cL_law.data.toList[244]? = some 0x1d from (LBL_lawr_15 4).trans (by decide +kernel))
theorem dL_law_245 : decode cL_law 245 = .ok (.iconst 2, 1) := dk_5_ (show cL_law.data.toList[245]? = some 0x05 from (LBL_lawr_15 5).trans (by decide +kernel))
theorem dL_law_246 : decode cL_law 246 = .ok (.iadd, 1) := dk_96_ (show cL_law.data.toList[246]? = some 0x60 from (LBL_lawr_15 6).trans (by decide +kernel))
theorem dL_law_247 : decode cL_law 247 = .ok (.iaload, 1) := dk_46_ (show cL_law.data.toList[247]? = some 0x2e from (LBL_lawr_15 7).trans (by decide +kernel))
theorem dL_law_248 : decode cL_law 248 = .ok (.invokevirtual 18, 3) := dk_182_ (show cL_law.data.toList[248]? = some 0xb6 from (LBL_lawr_15 8).trans (by decide +kernel)) (show cL_law.data.toList[249]? = some 0x00 from (LBL_lawr_15 9).trans (by decide +kernel)) (show cL_law.data.toList[250]? = some 0x12 from (LBL_lawr_15 10).trans (by decide +kernel)) (by decide)
theorem dL_law_251 : decode cL_law 251 = .ok (.pop, 1) := dk_87_ (show cL_law.data.toList[251]? = some 0x57 from (LBL_lawr_15 11).trans (by decide +kernel))
theorem dL_law_252 : decode cL_law 252 = .ok (.aload_n 2, 1) := dk_44_ (show cL_law.data.toList[252]? = some 0x2c from (LBL_lawr_15 12).trans (by decide +kernel))
theorem dL_law_253 : decode cL_law 253 = .ok (.aload_n 0, 1) := dk_42_ (show cL_law.data.toList[253]? = some 0x2a from (LBL_lawr_15 13).trans (by decide +kernel))
theorem dL_law_254 : decode cL_law 254 = .ok (.iload_n 3, 1) := dk_29_ (show cL_law.data.toList[254]? = some 0x1d from (LBL_lawr_15 14).trans (by decide +kernel))
theorem dL_law_255 : decode cL_law 255 = .ok (.iconst 1, 1) := dk_4_ (show cL_law.data.toList[255]? = some 0x04 from (LBL_lawr_15 15).trans (by decide +kernel))
theorem dL_law_256 : decode cL_law 256 = .ok (.iadd, 1) := dk_96_ (show cL_law.data.toList[256]? = some 0x60 from (LBL_lawr_16 0).trans (by decide +kernel))
theorem dL_law_257 : decode cL_law 257 = .ok (.iaload, 1) := dk_46_ (show cL_law.data.toList[257]? = some 0x2e from (LBL_lawr_16 1).trans (by decide +kernel))
theorem dL_law_258 : decode cL_law 258 = .ok (.aload_n 0, 1) := dk_42_ (show cL_law.data.toList[258]? = some 0x2a from (LBL_lawr_16 2).trans (by decide +kernel))
theorem dL_law_259 : decode cL_law 259 = .ok (.iload_n 3, 1) := dk_29_ (show cL_law.data.toList[259]? = some 0x1d from (LBL_lawr_16 3).trans (by decide +kernel))
theorem dL_law_260 : decode cL_law 260 = .ok (.iconst 2, 1) := dk_5_ (show cL_law.data.toList[260]? = some 0x05 from (LBL_lawr_16 4).trans (by decide +kernel))
theorem dL_law_261 : decode cL_law 261 = .ok (.iadd, 1) := dk_96_ (show cL_law.data.toList[261]? = some 0x60 from (LBL_lawr_16 5).trans (by decide +kernel))
theorem dL_law_262 : decode cL_law 262 = .ok (.iaload, 1) := dk_46_ (show cL_law.data.toList[262]? = some 0x2e from (LBL_lawr_16 6).trans (by decide +kernel))
theorem dL_law_263 : decode cL_law 263 = .ok (.invokevirtual 22, 3) := dk_182_ (show cL_law.data.toList[263]? = some 0xb6 from (LBL_lawr_16 7).trans (by decide +kernel)) (show cL_law.data.toList[264]? = some 0x00 from (LBL_lawr_16 8).trans (by decide +kernel)) (show cL_law.data.toList[265]? = some 0x16 from (LBL_lawr_16 9).trans (by decide +kernel)) (by decide)
theorem dL_law_266 : decode cL_law 266 = .ok (.pop, 1) := dk_87_ (show cL_law.data.toList[266]? = some 0x57 from (LBL_lawr_16 10).trans (by decide +kernel))
theorem dL_law_267 : decode cL_law 267 = .ok (.goto 1215, 3) := dk_167_ (show cL_law.data.toList[267]? = some 0xa7 from (LBL_lawr_16 11).trans (by decide +kernel)) (show cL_law.data.toList[268]? = some 0x04 from (LBL_lawr_16 12).trans (by decide +kernel)) (show cL_law.data.toList[269]? = some 0xbf from (LBL_lawr_16 13).trans (by decide +kernel)) (by decide)
theorem dL_law_270 : decode cL_law 270 = .ok (.aload_n 1, 1) := dk_43_ (show cL_law.data.toList[270]? = some 0x2b from (LBL_lawr_16 14).trans (by decide +kernel))
theorem dL_law_271 : decode cL_law 271 = .ok (.aload_n 0, 1) := dk_42_ (show cL_law.data.toList[271]? = some 0x2a from (LBL_lawr_16 15).trans (by decide +kernel))
theorem dL_law_272 : decode cL_law 272 = .ok (.iload_n 3, 1) := dk_29_ (show cL_law.data.toList[272]? = some 0x1d from (LBL_lawr_17 0).trans (by decide +kernel))
theorem dL_law_273 : decode cL_law 273 = .ok (.iconst 1, 1) := dk_4_ (show cL_law.data.toList[273]? = some 0x04 from (LBL_lawr_17 1).trans (by decide +kernel))
theorem dL_law_274 : decode cL_law 274 = .ok (.iadd, 1) := dk_96_ (show cL_law.data.toList[274]? = some 0x60 from (LBL_lawr_17 2).trans (by decide +kernel))
theorem dL_law_275 : decode cL_law 275 = .ok (.iaload, 1) := dk_46_ (show cL_law.data.toList[275]? = some 0x2e from (LBL_lawr_17 3).trans (by decide +kernel))
theorem dL_law_276 : decode cL_law 276 = .ok (.aload_n 0, 1) := dk_42_ (show cL_law.data.toList[276]? = some 0x2a from (LBL_lawr_17 4).trans (by decide +kernel))
theorem dL_law_277 : decode cL_law 277 = .ok (.iload_n 3, 1) := dk_29_ (show cL_law.data.toList[277]? = some 0x1d from (LBL_lawr_17 5).trans (by decide +kernel))
theorem dL_law_278 : decode cL_law 278 = .ok (.iconst 2, 1) := dk_5_ (show cL_law.data.toList[278]? = some 0x05 from (LBL_lawr_17 6).trans (by decide +kernel))
theorem dL_law_279 : decode cL_law 279 = .ok (.iadd, 1) := dk_96_ (show cL_law.data.toList[279]? = some 0x60 from (LBL_lawr_17 7).trans (by decide +kernel))
theorem dL_law_280 : decode cL_law 280 = .ok (.iaload, 1) := dk_46_ (show cL_law.data.toList[280]? = some 0x2e from (LBL_lawr_17 8).trans (by decide +kernel))
theorem dL_law_281 : decode cL_law 281 = .ok (.aload_n 0, 1) := dk_42_ (show cL_law.data.toList[281]? = some 0x2a from (LBL_lawr_17 9).trans (by decide +kernel))
theorem dL_law_282 : decode cL_law 282 = .ok (.iload_n 3, 1) := dk_29_ (show cL_law.data.toList[282]? = some 0x1d from (LBL_lawr_17 10).trans (by decide +kernel))
theorem dL_law_283 : decode cL_law 283 = .ok (.iconst 3, 1) := dk_6_ (show cL_law.data.toList[283]? = some 0x06 from (LBL_lawr_17 11).trans (by decide +kernel))
theorem dL_law_284 : decode cL_law 284 = .ok (.iadd, 1) := dk_96_ (show cL_law.data.toList[284]? = some 0x60 from (LBL_lawr_17 12).trans (by decide +kernel))
theorem dL_law_285 : decode cL_law 285 = .ok (.iaload, 1) := dk_46_ (show cL_law.data.toList[285]? = some 0x2e from (LBL_lawr_17 13).trans (by decide +kernel))
theorem dL_law_286 : decode cL_law 286 = .ok (.aload_n 0, 1) := dk_42_ (show cL_law.data.toList[286]? = some 0x2a from (LBL_lawr_17 14).trans (by decide +kernel))
theorem dL_law_287 : decode cL_law 287 = .ok (.iload_n 3, 1) := dk_29_ (show cL_law.data.toList[287]? = some 0x1d from (LBL_lawr_17 15).trans (by decide +kernel))
theorem dL_law_288 : decode cL_law 288 = .ok (.iconst 4, 1) := dk_7_ (show cL_law.data.toList[288]? = some 0x07 from (LBL_lawr_18 0).trans (by decide +kernel))
theorem dL_law_289 : decode cL_law 289 = .ok (.iadd, 1) := dk_96_ (show cL_law.data.toList[289]? = some 0x60 from (LBL_lawr_18 1).trans (by decide +kernel))
theorem dL_law_290 : decode cL_law 290 = .ok (.iaload, 1) := dk_46_ (show cL_law.data.toList[290]? = some 0x2e from (LBL_lawr_18 2).trans (by decide +kernel))
theorem dL_law_291 : decode cL_law 291 = .ok (.invokevirtual 23, 3) := dk_182_ (show cL_law.data.toList[291]? = some 0xb6 from (LBL_lawr_18 3).trans (by decide +kernel)) (show cL_law.data.toList[292]? = some 0x00 from (LBL_lawr_18 4).trans (by decide +kernel)) (show cL_law.data.toList[293]? = some 0x17 from (LBL_lawr_18 5).trans (by decide +kernel)) (by decide)
theorem dL_law_294 : decode cL_law 294 = .ok (.pop, 1) := dk_87_ (show cL_law.data.toList[294]? = some 0x57 from (LBL_lawr_18 6).trans (by decide +kernel))
theorem dL_law_295 : decode cL_law 295 = .ok (.aload_n 2, 1) := dk_44_ (show cL_law.data.toList[295]? = some 0x2c from (LBL_lawr_18 7).trans (by decide +kernel))
theorem dL_law_296 : decode cL_law 296 = .ok (.aload_n 0, 1) := dk_42_ (show cL_law.data.toList[296]? = some 0x2a from (LBL_lawr_18 8).trans (by decide +kernel))
theorem dL_law_297 : decode cL_law 297 = .ok (.iload_n 3, 1) := dk_29_ (show cL_law.data.toList[297]? = some 0x1d from (LBL_lawr_18 9).trans (by decide +kernel))
theorem dL_law_298 : decode cL_law 298 = .ok (.iconst 1, 1) := dk_4_ (show cL_law.data.toList[298]? = some 0x04 from (LBL_lawr_18 10).trans (by decide +kernel))
theorem dL_law_299 : decode cL_law 299 = .ok (.iadd, 1) := dk_96_ (show cL_law.data.toList[299]? = some 0x60 from (LBL_lawr_18 11).trans (by decide +kernel))
theorem dL_law_300 : decode cL_law 300 = .ok (.iaload, 1) := dk_46_ (show cL_law.data.toList[300]? = some 0x2e from (LBL_lawr_18 12).trans (by decide +kernel))
theorem dL_law_301 : decode cL_law 301 = .ok (.aload_n 0, 1) := dk_42_ (show cL_law.data.toList[301]? = some 0x2a from (LBL_lawr_18 13).trans (by decide +kernel))
theorem dL_law_302 : decode cL_law 302 = .ok (.iload_n 3, 1) := dk_29_ (show cL_law.data.toList[302]? = some 0x1d from (LBL_lawr_18 14).trans (by decide +kernel))
theorem dL_law_303 : decode cL_law 303 = .ok (.iconst 2, 1) := dk_5_ (show cL_law.data.toList[303]? = some 0x05 from (LBL_lawr_18 15).trans (by decide +kernel))
theorem dL_law_304 : decode cL_law 304 = .ok (.iadd, 1) := dk_96_ (show cL_law.data.toList[304]? = some 0x60 from (LBL_lawr_19 0).trans (by decide +kernel))
theorem dL_law_305 : decode cL_law 305 = .ok (.iaload, 1) := dk_46_ (show cL_law.data.toList[305]? = some 0x2e from (LBL_lawr_19 1).trans (by decide +kernel))
theorem dL_law_306 : decode cL_law 306 = .ok (.aload_n 0, 1) := dk_42_ (show cL_law.data.toList[306]? = some 0x2a from (LBL_lawr_19 2).trans (by decide +kernel))
theorem dL_law_307 : decode cL_law 307 = .ok (.iload_n 3, 1) := dk_29_ (show cL_law.data.toList[307]? = some 0x1d from (LBL_lawr_19 3).trans (by decide +kernel))
theorem dL_law_308 : decode cL_law 308 = .ok (.iconst 3, 1) := dk_6_ (show cL_law.data.toList[308]? = some 0x06 from (LBL_lawr_19 4).trans (by decide +kernel))
theorem dL_law_309 : decode cL_law 309 = .ok (.iadd, 1) := dk_96_ (show cL_law.data.toList[309]? = some 0x60 from (LBL_lawr_19 5).trans (by decide +kernel))
theorem dL_law_310 : decode cL_law 310 = .ok (.iaload, 1) := dk_46_ (show cL_law.data.toList[310]? = some 0x2e from (LBL_lawr_19 6).trans (by decide +kernel))
theorem dL_law_311 : decode cL_law 311 = .ok (.aload_n 0, 1) := dk_42_ (show cL_law.data.toList[311]? = some 0x2a from (LBL_lawr_19 7).trans (by decide +kernel))
theorem dL_law_312 : decode cL_law 312 = .ok (.iload_n 3, 1) := dk_29_ (show cL_law.data.toList[312]? = some 0x1d from (LBL_lawr_19 8).trans (by decide +kernel))
theorem dL_law_313 : decode cL_law 313 = .ok (.iconst 4, 1) := dk_7_ (show cL_law.data.toList[313]? = some 0x07 from (LBL_lawr_19 9).trans (by decide +kernel))
theorem dL_law_314 : decode cL_law 314 = .ok (.iadd, 1) := dk_96_ (show cL_law.data.toList[314]? = some 0x60 from (LBL_lawr_19 10).trans (by decide +kernel))
theorem dL_law_315 : decode cL_law 315 = .ok (.iaload, 1) := dk_46_ (show cL_law.data.toList[315]? = some 0x2e from (LBL_lawr_19 11).trans (by decide +kernel))
theorem dL_law_316 : decode cL_law 316 = .ok (.invokevirtual 27, 3) := dk_182_ (show cL_law.data.toList[316]? = some 0xb6 from (LBL_lawr_19 12).trans (by decide +kernel)) (show cL_law.data.toList[317]? = some 0x00 from (LBL_lawr_19 13).trans (by decide +kernel)) (show cL_law.data.toList[318]? = some 0x1b from (LBL_lawr_19 14).trans (by decide +kernel)) (by decide)
theorem dL_law_319 : decode cL_law 319 = .ok (.pop, 1) := dk_87_ (show cL_law.data.toList[319]? = some 0x57 from (LBL_lawr_19 15).trans (by decide +kernel))
theorem dL_law_320 : decode cL_law 320 = .ok (.goto 1162, 3) := dk_167_ (show cL_law.data.toList[320]? = some 0xa7 from (LBL_lawr_20 0).trans (by decide +kernel)) (show cL_law.data.toList[321]? = some 0x04 from (LBL_lawr_20 1).trans (by decide +kernel)) (show cL_law.data.toList[322]? = some 0x8a from (LBL_lawr_20 2).trans (by decide +kernel)) (by decide)
theorem dL_law_323 : decode cL_law 323 = .ok (.aload_n 1, 1) := dk_43_ (show cL_law.data.toList[323]? = some 0x2b from (LBL_lawr_20 3).trans (by decide +kernel))
theorem dL_law_324 : decode cL_law 324 = .ok (.aload_n 0, 1) := dk_42_ (show cL_law.data.toList[324]? = some 0x2a from (LBL_lawr_20 4).trans (by decide +kernel))
theorem dL_law_325 : decode cL_law 325 = .ok (.iload_n 3, 1) := dk_29_ (show cL_law.data.toList[325]? = some 0x1d from (LBL_lawr_20 5).trans (by decide +kernel))
theorem dL_law_326 : decode cL_law 326 = .ok (.iconst 1, 1) := dk_4_ (show cL_law.data.toList[326]? = some 0x04 from (LBL_lawr_20 6).trans (by decide +kernel))
theorem dL_law_327 : decode cL_law 327 = .ok (.iadd, 1) := dk_96_ (show cL_law.data.toList[327]? = some 0x60 from (LBL_lawr_20 7).trans (by decide +kernel))
theorem dL_law_328 : decode cL_law 328 = .ok (.iaload, 1) := dk_46_ (show cL_law.data.toList[328]? = some 0x2e from (LBL_lawr_20 8).trans (by decide +kernel))
theorem dL_law_329 : decode cL_law 329 = .ok (.aload_n 0, 1) := dk_42_ (show cL_law.data.toList[329]? = some 0x2a from (LBL_lawr_20 9).trans (by decide +kernel))
theorem dL_law_330 : decode cL_law 330 = .ok (.iload_n 3, 1) := dk_29_ (show cL_law.data.toList[330]? = some 0x1d from (LBL_lawr_20 10).trans (by decide +kernel))
theorem dL_law_331 : decode cL_law 331 = .ok (.iconst 2, 1) := dk_5_ (show cL_law.data.toList[331]? = some 0x05 from (LBL_lawr_20 11).trans (by decide +kernel))
theorem dL_law_332 : decode cL_law 332 = .ok (.iadd, 1) := dk_96_ (show cL_law.data.toList[332]? = some 0x60 from (LBL_lawr_20 12).trans (by decide +kernel))
theorem dL_law_333 : decode cL_law 333 = .ok (.iaload, 1) := dk_46_ (show cL_law.data.toList[333]? = some 0x2e from (LBL_lawr_20 13).trans (by decide +kernel))
theorem dL_law_334 : decode cL_law 334 = .ok (.aload_n 0, 1) := dk_42_ (show cL_law.data.toList[334]? = some 0x2a from (LBL_lawr_20 14).trans (by decide +kernel))
theorem dL_law_335 : decode cL_law 335 = .ok (.iload_n 3, 1) := dk_29_ (show cL_law.data.toList[335]? = some 0x1d from (LBL_lawr_20 15).trans (by decide +kernel))
theorem dL_law_336 : decode cL_law 336 = .ok (.iconst 3, 1) := dk_6_ (show cL_law.data.toList[336]? = some 0x06 from (LBL_lawr_21 0).trans (by decide +kernel))
theorem dL_law_337 : decode cL_law 337 = .ok (.iadd, 1) := dk_96_ (show cL_law.data.toList[337]? = some 0x60 from (LBL_lawr_21 1).trans (by decide +kernel))
theorem dL_law_338 : decode cL_law 338 = .ok (.iaload, 1) := dk_46_ (show cL_law.data.toList[338]? = some 0x2e from (LBL_lawr_21 2).trans (by decide +kernel))
theorem dL_law_339 : decode cL_law 339 = .ok (.invokevirtual 28, 3) := dk_182_ (show cL_law.data.toList[339]? = some 0xb6 from (LBL_lawr_21 3).trans (by decide +kernel)) (show cL_law.data.toList[340]? = some 0x00 from (LBL_lawr_21 4).trans (by decide +kernel)) (show cL_law.data.toList[341]? = some 0x1c from (LBL_lawr_21 5).trans (by decide +kernel)) (by decide)
theorem dL_law_342 : decode cL_law 342 = .ok (.pop, 1) := dk_87_ (show cL_law.data.toList[342]? = some 0x57 from (LBL_lawr_21 6).trans (by decide +kernel))
theorem dL_law_343 : decode cL_law 343 = .ok (.aload_n 2, 1) := dk_44_ (show cL_law.data.toList[343]? = some 0x2c from (LBL_lawr_21 7).trans (by decide +kernel))
theorem dL_law_344 : decode cL_law 344 = .ok (.aload_n 0, 1) := dk_42_ (show cL_law.data.toList[344]? = some 0x2a from (LBL_lawr_21 8).trans (by decide +kernel))
theorem dL_law_345 : decode cL_law 345 = .ok (.iload_n 3, 1) := dk_29_ (show cL_law.data.toList[345]? = some 0x1d from (LBL_lawr_21 9).trans (by decide +kernel))
theorem dL_law_346 : decode cL_law 346 = .ok (.iconst 1, 1) := dk_4_ (show cL_law.data.toList[346]? = some 0x04 from (LBL_lawr_21 10).trans (by decide +kernel))
theorem dL_law_347 : decode cL_law 347 = .ok (.iadd, 1) := dk_96_ (show cL_law.data.toList[347]? = some 0x60 from (LBL_lawr_21 11).trans (by decide +kernel))
theorem dL_law_348 : decode cL_law 348 = .ok (.iaload, 1) := dk_46_ (show cL_law.data.toList[348]? = some 0x2e from (LBL_lawr_21 12).trans (by decide +kernel))
theorem dL_law_349 : decode cL_law 349 = .ok (.aload_n 0, 1) := dk_42_ (show cL_law.data.toList[349]? = some 0x2a from (LBL_lawr_21 13).trans (by decide +kernel))
theorem dL_law_350 : decode cL_law 350 = .ok (.iload_n 3, 1) := dk_29_ (show cL_law.data.toList[350]? = some 0x1d from (LBL_lawr_21 14).trans (by decide +kernel))
theorem dL_law_351 : decode cL_law 351 = .ok (.iconst 2, 1) := dk_5_ (show cL_law.data.toList[351]? = some 0x05 from (LBL_lawr_21 15).trans (by decide +kernel))
theorem dL_law_352 : decode cL_law 352 = .ok (.iadd, 1) := dk_96_ (show cL_law.data.toList[352]? = some 0x60 from (LBL_lawr_22 0).trans (by decide +kernel))
theorem dL_law_353 : decode cL_law 353 = .ok (.iaload, 1) := dk_46_ (show cL_law.data.toList[353]? = some 0x2e from (LBL_lawr_22 1).trans (by decide +kernel))
theorem dL_law_354 : decode cL_law 354 = .ok (.aload_n 0, 1) := dk_42_ (show cL_law.data.toList[354]? = some 0x2a from (LBL_lawr_22 2).trans (by decide +kernel))
theorem dL_law_355 : decode cL_law 355 = .ok (.iload_n 3, 1) := dk_29_ (show cL_law.data.toList[355]? = some 0x1d from (LBL_lawr_22 3).trans (by decide +kernel))
theorem dL_law_356 : decode cL_law 356 = .ok (.iconst 3, 1) := dk_6_ (show cL_law.data.toList[356]? = some 0x06 from (LBL_lawr_22 4).trans (by decide +kernel))
theorem dL_law_357 : decode cL_law 357 = .ok (.iadd, 1) := dk_96_ (show cL_law.data.toList[357]? = some 0x60 from (LBL_lawr_22 5).trans (by decide +kernel))
theorem dL_law_358 : decode cL_law 358 = .ok (.iaload, 1) := dk_46_ (show cL_law.data.toList[358]? = some 0x2e from (LBL_lawr_22 6).trans (by decide +kernel))
theorem dL_law_359 : decode cL_law 359 = .ok (.invokevirtual 32, 3) := dk_182_ (show cL_law.data.toList[359]? = some 0xb6 from (LBL_lawr_22 7).trans (by decide +kernel)) (show cL_law.data.toList[360]? = some 0x00 from (LBL_lawr_22 8).trans (by decide +kernel)) (show cL_law.data.toList[361]? = some 0x20 from (LBL_lawr_22 9).trans (by decide +kernel)) (by decide)
theorem dL_law_362 : decode cL_law 362 = .ok (.pop, 1) := dk_87_ (show cL_law.data.toList[362]? = some 0x57 from (LBL_lawr_22 10).trans (by decide +kernel))
theorem dL_law_363 : decode cL_law 363 = .ok (.goto 1119, 3) := dk_167_ (show cL_law.data.toList[363]? = some 0xa7 from (LBL_lawr_22 11).trans (by decide +kernel)) (show cL_law.data.toList[364]? = some 0x04 from (LBL_lawr_22 12).trans (by decide +kernel)) (show cL_law.data.toList[365]? = some 0x5f from (LBL_lawr_22 13).trans (by decide +kernel)) (by decide)
theorem dL_law_366 : decode cL_law 366 = .ok (.aload_n 1, 1) := dk_43_ (show cL_law.data.toList[366]? = some 0x2b from (LBL_lawr_22 14).trans (by decide +kernel))
theorem dL_law_367 : decode cL_law 367 = .ok (.aload_n 0, 1) := dk_42_ (show cL_law.data.toList[367]? = some 0x2a from (LBL_lawr_22 15).trans (by decide +kernel))
theorem dL_law_368 : decode cL_law 368 = .ok (.iload_n 3, 1) := dk_29_ (show cL_law.data.toList[368]? = some 0x1d from (LBL_lawr_23 0).trans (by decide +kernel))
theorem dL_law_369 : decode cL_law 369 = .ok (.iconst 1, 1) := dk_4_ (show cL_law.data.toList[369]? = some 0x04 from (LBL_lawr_23 1).trans (by decide +kernel))
theorem dL_law_370 : decode cL_law 370 = .ok (.iadd, 1) := dk_96_ (show cL_law.data.toList[370]? = some 0x60 from (LBL_lawr_23 2).trans (by decide +kernel))
theorem dL_law_371 : decode cL_law 371 = .ok (.iaload, 1) := dk_46_ (show cL_law.data.toList[371]? = some 0x2e from (LBL_lawr_23 3).trans (by decide +kernel))
theorem dL_law_372 : decode cL_law 372 = .ok (.aload_n 0, 1) := dk_42_ (show cL_law.data.toList[372]? = some 0x2a from (LBL_lawr_23 4).trans (by decide +kernel))
theorem dL_law_373 : decode cL_law 373 = .ok (.iload_n 3, 1) := dk_29_ (show cL_law.data.toList[373]? = some 0x1d from (LBL_lawr_23 5).trans (by decide +kernel))
theorem dL_law_374 : decode cL_law 374 = .ok (.iconst 2, 1) := dk_5_ (show cL_law.data.toList[374]? = some 0x05 from (LBL_lawr_23 6).trans (by decide +kernel))
theorem dL_law_375 : decode cL_law 375 = .ok (.iadd, 1) := dk_96_ (show cL_law.data.toList[375]? = some 0x60 from (LBL_lawr_23 7).trans (by decide +kernel))
theorem dL_law_376 : decode cL_law 376 = .ok (.iaload, 1) := dk_46_ (show cL_law.data.toList[376]? = some 0x2e from (LBL_lawr_23 8).trans (by decide +kernel))
theorem dL_law_377 : decode cL_law 377 = .ok (.aload_n 0, 1) := dk_42_ (show cL_law.data.toList[377]? = some 0x2a from (LBL_lawr_23 9).trans (by decide +kernel))
theorem dL_law_378 : decode cL_law 378 = .ok (.iload_n 3, 1) := dk_29_ (show cL_law.data.toList[378]? = some 0x1d from (LBL_lawr_23 10).trans (by decide +kernel))
theorem dL_law_379 : decode cL_law 379 = .ok (.iconst 3, 1) := dk_6_ (show cL_law.data.toList[379]? = some 0x06 from (LBL_lawr_23 11).trans (by decide +kernel))
theorem dL_law_380 : decode cL_law 380 = .ok (.iadd, 1) := dk_96_ (show cL_law.data.toList[380]? = some 0x60 from (LBL_lawr_23 12).trans (by decide +kernel))
theorem dL_law_381 : decode cL_law 381 = .ok (.iaload, 1) := dk_46_ (show cL_law.data.toList[381]? = some 0x2e from (LBL_lawr_23 13).trans (by decide +kernel))
theorem dL_law_382 : decode cL_law 382 = .ok (.ifCond .eq 7, 3) := dk_153_ (show cL_law.data.toList[382]? = some 0x99 from (LBL_lawr_23 14).trans (by decide +kernel)) (show cL_law.data.toList[383]? = some 0x00 from (LBL_lawr_23 15).trans (by decide +kernel)) (show cL_law.data.toList[384]? = some 0x07 from (LBL_lawr_24 0).trans (by decide +kernel)) (by decide)
theorem dL_law_385 : decode cL_law 385 = .ok (.iconst 1, 1) := dk_4_ (show cL_law.data.toList[385]? = some 0x04 from (LBL_lawr_24 1).trans (by decide +kernel))
theorem dL_law_386 : decode cL_law 386 = .ok (.goto 4, 3) := dk_167_ (show cL_law.data.toList[386]? = some 0xa7 from (LBL_lawr_24 2).trans (by decide +kernel)) (show cL_law.data.toList[387]? = some 0x00 from (LBL_lawr_24 3).trans (by decide +kernel)) (show cL_law.data.toList[388]? = some 0x04 from (LBL_lawr_24 4).trans (by decide +kernel)) (by decide)
theorem dL_law_389 : decode cL_law 389 = .ok (.iconst 0, 1) := dk_3_ (show cL_law.data.toList[389]? = some 0x03 from (LBL_lawr_24 5).trans (by decide +kernel))
theorem dL_law_390 : decode cL_law 390 = .ok (.invokevirtual 33, 3) := dk_182_ (show cL_law.data.toList[390]? = some 0xb6 from (LBL_lawr_24 6).trans (by decide +kernel)) (show cL_law.data.toList[391]? = some 0x00 from (LBL_lawr_24 7).trans (by decide +kernel)) (show cL_law.data.toList[392]? = some 0x21 from (LBL_lawr_24 8).trans (by decide +kernel)) (by decide)
theorem dL_law_393 : decode cL_law 393 = .ok (.aload_n 2, 1) := dk_44_ (show cL_law.data.toList[393]? = some 0x2c from (LBL_lawr_24 9).trans (by decide +kernel))
theorem dL_law_394 : decode cL_law 394 = .ok (.aload_n 0, 1) := dk_42_ (show cL_law.data.toList[394]? = some 0x2a from (LBL_lawr_24 10).trans (by decide +kernel))
theorem dL_law_395 : decode cL_law 395 = .ok (.iload_n 3, 1) := dk_29_ (show cL_law.data.toList[395]? = some 0x1d from (LBL_lawr_24 11).trans (by decide +kernel))
theorem dL_law_396 : decode cL_law 396 = .ok (.iconst 1, 1) := dk_4_ (show cL_law.data.toList[396]? = some 0x04 from (LBL_lawr_24 12).trans (by decide +kernel))
theorem dL_law_397 : decode cL_law 397 = .ok (.iadd, 1) := dk_96_ (show cL_law.data.toList[397]? = some 0x60 from (LBL_lawr_24 13).trans (by decide +kernel))
theorem dL_law_398 : decode cL_law 398 = .ok (.iaload, 1) := dk_46_ (show cL_law.data.toList[398]? = some 0x2e from (LBL_lawr_24 14).trans (by decide +kernel))
theorem dL_law_399 : decode cL_law 399 = .ok (.aload_n 0, 1) := dk_42_ (show cL_law.data.toList[399]? = some 0x2a from (LBL_lawr_24 15).trans (by decide +kernel))
theorem dL_law_400 : decode cL_law 400 = .ok (.iload_n 3, 1) := dk_29_ (show cL_law.data.toList[400]? = some 0x1d from (LBL_lawr_25 0).trans (by decide +kernel))
theorem dL_law_401 : decode cL_law 401 = .ok (.iconst 2, 1) := dk_5_ (show cL_law.data.toList[401]? = some 0x05 from (LBL_lawr_25 1).trans (by decide +kernel))
theorem dL_law_402 : decode cL_law 402 = .ok (.iadd, 1) := dk_96_ (show cL_law.data.toList[402]? = some 0x60 from (LBL_lawr_25 2).trans (by decide +kernel))
theorem dL_law_403 : decode cL_law 403 = .ok (.iaload, 1) := dk_46_ (show cL_law.data.toList[403]? = some 0x2e from (LBL_lawr_25 3).trans (by decide +kernel))
theorem dL_law_404 : decode cL_law 404 = .ok (.aload_n 0, 1) := dk_42_ (show cL_law.data.toList[404]? = some 0x2a from (LBL_lawr_25 4).trans (by decide +kernel))
theorem dL_law_405 : decode cL_law 405 = .ok (.iload_n 3, 1) := dk_29_ (show cL_law.data.toList[405]? = some 0x1d from (LBL_lawr_25 5).trans (by decide +kernel))
theorem dL_law_406 : decode cL_law 406 = .ok (.iconst 3, 1) := dk_6_ (show cL_law.data.toList[406]? = some 0x06 from (LBL_lawr_25 6).trans (by decide +kernel))
theorem dL_law_407 : decode cL_law 407 = .ok (.iadd, 1) := dk_96_ (show cL_law.data.toList[407]? = some 0x60 from (LBL_lawr_25 7).trans (by decide +kernel))
theorem dL_law_408 : decode cL_law 408 = .ok (.iaload, 1) := dk_46_ (show cL_law.data.toList[408]? = some 0x2e from (LBL_lawr_25 8).trans (by decide +kernel))
theorem dL_law_409 : decode cL_law 409 = .ok (.ifCond .eq 7, 3) := dk_153_ (show cL_law.data.toList[409]? = some 0x99 from (LBL_lawr_25 9).trans (by decide +kernel)) (show cL_law.data.toList[410]? = some 0x00 from (LBL_lawr_25 10).trans (by decide +kernel)) (show cL_law.data.toList[411]? = some 0x07 from (LBL_lawr_25 11).trans (by decide +kernel)) (by decide)
theorem dL_law_412 : decode cL_law 412 = .ok (.iconst 1, 1) := dk_4_ (show cL_law.data.toList[412]? = some 0x04 from (LBL_lawr_25 12).trans (by decide +kernel))
theorem dL_law_413 : decode cL_law 413 = .ok (.goto 4, 3) := dk_167_ (show cL_law.data.toList[413]? = some 0xa7 from (LBL_lawr_25 13).trans (by decide +kernel)) (show cL_law.data.toList[414]? = some 0x00 from (LBL_lawr_25 14).trans (by decide +kernel)) (show cL_law.data.toList[415]? = some 0x04 from (LBL_lawr_25 15).trans (by decide +kernel)) (by decide)
theorem dL_law_416 : decode cL_law 416 = .ok (.iconst 0, 1) := dk_3_ (show cL_law.data.toList[416]? = some 0x03 from (LBL_lawr_26 0).trans (by decide +kernel))
theorem dL_law_417 : decode cL_law 417 = .ok (.invokevirtual 37, 3) := dk_182_ (show cL_law.data.toList[417]? = some 0xb6 from (LBL_lawr_26 1).trans (by decide +kernel)) (show cL_law.data.toList[418]? = some 0x00 from (LBL_lawr_26 2).trans (by decide +kernel)) (show cL_law.data.toList[419]? = some 0x25 from (LBL_lawr_26 3).trans (by decide +kernel)) (by decide)
theorem dL_law_420 : decode cL_law 420 = .ok (.if_icmp .eq 1062, 3) := dk_159_ (show cL_law.data.toList[420]? = some 0x9f from (LBL_lawr_26 4).trans (by decide +kernel)) (show cL_law.data.toList[421]? = some 0x04 from (LBL_lawr_26 5).trans (by decide +kernel)) (show cL_law.data.toList[422]? = some 0x26 from (LBL_lawr_26 6).trans (by decide +kernel)) (by decide)
theorem dL_law_423 : decode cL_law 423 = .ok (.iconst 0, 1) := dk_3_ (show cL_law.data.toList[423]? = some 0x03 from (LBL_lawr_26 7).trans (by decide +kernel))
theorem dL_law_424 : decode cL_law 424 = .ok (.ireturn, 1) := dk_172_ (show cL_law.data.toList[424]? = some 0xac from (LBL_lawr_26 8).trans (by decide +kernel))
theorem dL_law_425 : decode cL_law 425 = .ok (.aload_n 1, 1) := dk_43_ (show cL_law.data.toList[425]? = some 0x2b from (LBL_lawr_26 9).trans (by decide +kernel))
theorem dL_law_426 : decode cL_law 426 = .ok (.aload_n 0, 1) := dk_42_ (show cL_law.data.toList[426]? = some 0x2a from (LBL_lawr_26 10).trans (by decide +kernel))
theorem dL_law_427 : decode cL_law 427 = .ok (.iload_n 3, 1) := dk_29_ (show cL_law.data.toList[427]? = some 0x1d from (LBL_lawr_26 11).trans (by decide +kernel))
theorem dL_law_428 : decode cL_law 428 = .ok (.iconst 1, 1) := dk_4_ (show cL_law.data.toList[428]? = some 0x04 from (LBL_lawr_26 12).trans (by decide +kernel))
theorem dL_law_429 : decode cL_law 429 = .ok (.iadd, 1) := dk_96_ (show cL_law.data.toList[429]? = some 0x60 from (LBL_lawr_26 13).trans (by decide +kernel))
theorem dL_law_430 : decode cL_law 430 = .ok (.iaload, 1) := dk_46_ (show cL_law.data.toList[430]? = some 0x2e from (LBL_lawr_26 14).trans (by decide +kernel))
theorem dL_law_431 : decode cL_law 431 = .ok (.aload_n 0, 1) := dk_42_ (show cL_law.data.toList[431]? = some 0x2a from (LBL_lawr_26 15).trans (by decide +kernel))
theorem dL_law_432 : decode cL_law 432 = .ok (.iload_n 3, 1) := dk_29_ (show cL_law.data.toList[432]? = some 0x1d from (LBL_lawr_27 0).trans (by decide +kernel))
theorem dL_law_433 : decode cL_law 433 = .ok (.iconst 2, 1) := dk_5_ (show cL_law.data.toList[433]? = some 0x05 from (LBL_lawr_27 1).trans (by decide +kernel))
theorem dL_law_434 : decode cL_law 434 = .ok (.iadd, 1) := dk_96_ (show cL_law.data.toList[434]? = some 0x60 from (LBL_lawr_27 2).trans (by decide +kernel))
theorem dL_law_435 : decode cL_law 435 = .ok (.iaload, 1) := dk_46_ (show cL_law.data.toList[435]? = some 0x2e from (LBL_lawr_27 3).trans (by decide +kernel))
theorem dL_law_436 : decode cL_law 436 = .ok (.invokevirtual 38, 3) := dk_182_ (show cL_law.data.toList[436]? = some 0xb6 from (LBL_lawr_27 4).trans (by decide +kernel)) (show cL_law.data.toList[437]? = some 0x00 from (LBL_lawr_27 5).trans (by decide +kernel)) (show cL_law.data.toList[438]? = some 0x26 from (LBL_lawr_27 6).trans (by decide +kernel)) (by decide)
theorem dL_law_439 : decode cL_law 439 = .ok (.pop, 1) := dk_87_ (show cL_law.data.toList[439]? = some 0x57 from (LBL_lawr_27 7).trans (by decide +kernel))
theorem dL_law_440 : decode cL_law 440 = .ok (.aload_n 2, 1) := dk_44_ (show cL_law.data.toList[440]? = some 0x2c from (LBL_lawr_27 8).trans (by decide +kernel))
theorem dL_law_441 : decode cL_law 441 = .ok (.aload_n 0, 1) := dk_42_ (show cL_law.data.toList[441]? = some 0x2a from (LBL_lawr_27 9).trans (by decide +kernel))
theorem dL_law_442 : decode cL_law 442 = .ok (.iload_n 3, 1) := dk_29_ (show cL_law.data.toList[442]? = some 0x1d from (LBL_lawr_27 10).trans (by decide +kernel))
theorem dL_law_443 : decode cL_law 443 = .ok (.iconst 1, 1) := dk_4_ (show cL_law.data.toList[443]? = some 0x04 from (LBL_lawr_27 11).trans (by decide +kernel))
theorem dL_law_444 : decode cL_law 444 = .ok (.iadd, 1) := dk_96_ (show cL_law.data.toList[444]? = some 0x60 from (LBL_lawr_27 12).trans (by decide +kernel))
theorem dL_law_445 : decode cL_law 445 = .ok (.iaload, 1) := dk_46_ (show cL_law.data.toList[445]? = some 0x2e from (LBL_lawr_27 13).trans (by decide +kernel))
theorem dL_law_446 : decode cL_law 446 = .ok (.aload_n 0, 1) := dk_42_ (show cL_law.data.toList[446]? = some 0x2a from (LBL_lawr_27 14).trans (by decide +kernel))
theorem dL_law_447 : decode cL_law 447 = .ok (.iload_n 3, 1) := dk_29_ (show cL_law.data.toList[447]? = some 0x1d from (LBL_lawr_27 15).trans (by decide +kernel))
theorem dL_law_448 : decode cL_law 448 = .ok (.iconst 2, 1) := dk_5_ (show cL_law.data.toList[448]? = some 0x05 from (LBL_lawr_28 0).trans (by decide +kernel))
theorem dL_law_449 : decode cL_law 449 = .ok (.iadd, 1) := dk_96_ (show cL_law.data.toList[449]? = some 0x60 from (LBL_lawr_28 1).trans (by decide +kernel))
theorem dL_law_450 : decode cL_law 450 = .ok (.iaload, 1) := dk_46_ (show cL_law.data.toList[450]? = some 0x2e from (LBL_lawr_28 2).trans (by decide +kernel))
theorem dL_law_451 : decode cL_law 451 = .ok (.invokevirtual 41, 3) := dk_182_ (show cL_law.data.toList[451]? = some 0xb6 from (LBL_lawr_28 3).trans (by decide +kernel)) (show cL_law.data.toList[452]? = some 0x00 from (LBL_lawr_28 4).trans (by decide +kernel)) (show cL_law.data.toList[453]? = some 0x29 from (LBL_lawr_28 5).trans (by decide +kernel)) (by decide)
theorem dL_law_454 : decode cL_law 454 = .ok (.pop, 1) := dk_87_ (show cL_law.data.toList[454]? = some 0x57 from (LBL_lawr_28 6).trans (by decide +kernel))
theorem dL_law_455 : decode cL_law 455 = .ok (.goto 1027, 3) := dk_167_ (show cL_law.data.toList[455]? = some 0xa7 from (LBL_lawr_28 7).trans (by decide +kernel)) (show cL_law.data.toList[456]? = some 0x04 from (LBL_lawr_28 8).trans (by decide +kernel)) (show cL_law.data.toList[457]? = some 0x03 from (LBL_lawr_28 9).trans (by decide +kernel)) (by decide)
theorem dL_law_458 : decode cL_law 458 = .ok (.aload_n 1, 1) := dk_43_ (show cL_law.data.toList[458]? = some 0x2b from (LBL_lawr_28 10).trans (by decide +kernel))
theorem dL_law_459 : decode cL_law 459 = .ok (.aload_n 0, 1) := dk_42_ (show cL_law.data.toList[459]? = some 0x2a from (LBL_lawr_28 11).trans (by decide +kernel))
theorem dL_law_460 : decode cL_law 460 = .ok (.iload_n 3, 1) := dk_29_ (show cL_law.data.toList[460]? = some 0x1d from (LBL_lawr_28 12).trans (by decide +kernel))
theorem dL_law_461 : decode cL_law 461 = .ok (.iconst 1, 1) := dk_4_ (show cL_law.data.toList[461]? = some 0x04 from (LBL_lawr_28 13).trans (by decide +kernel))
theorem dL_law_462 : decode cL_law 462 = .ok (.iadd, 1) := dk_96_ (show cL_law.data.toList[462]? = some 0x60 from (LBL_lawr_28 14).trans (by decide +kernel))
theorem dL_law_463 : decode cL_law 463 = .ok (.iaload, 1) := dk_46_ (show cL_law.data.toList[463]? = some 0x2e from (LBL_lawr_28 15).trans (by decide +kernel))
theorem dL_law_464 : decode cL_law 464 = .ok (.aload_n 0, 1) := dk_42_ (show cL_law.data.toList[464]? = some 0x2a from (LBL_lawr_29 0).trans (by decide +kernel))
theorem dL_law_465 : decode cL_law 465 = .ok (.iload_n 3, 1) := dk_29_ (show cL_law.data.toList[465]? = some 0x1d from (LBL_lawr_29 1).trans (by decide +kernel))
theorem dL_law_466 : decode cL_law 466 = .ok (.iconst 2, 1) := dk_5_ (show cL_law.data.toList[466]? = some 0x05 from (LBL_lawr_29 2).trans (by decide +kernel))
theorem dL_law_467 : decode cL_law 467 = .ok (.iadd, 1) := dk_96_ (show cL_law.data.toList[467]? = some 0x60 from (LBL_lawr_29 3).trans (by decide +kernel))
theorem dL_law_468 : decode cL_law 468 = .ok (.iaload, 1) := dk_46_ (show cL_law.data.toList[468]? = some 0x2e from (LBL_lawr_29 4).trans (by decide +kernel))
theorem dL_law_469 : decode cL_law 469 = .ok (.aload_n 0, 1) := dk_42_ (show cL_law.data.toList[469]? = some 0x2a from (LBL_lawr_29 5).trans (by decide +kernel))
theorem dL_law_470 : decode cL_law 470 = .ok (.iload_n 3, 1) := dk_29_ (show cL_law.data.toList[470]? = some 0x1d from (LBL_lawr_29 6).trans (by decide +kernel))
theorem dL_law_471 : decode cL_law 471 = .ok (.iconst 3, 1) := dk_6_ (show cL_law.data.toList[471]? = some 0x06 from (LBL_lawr_29 7).trans (by decide +kernel))
theorem dL_law_472 : decode cL_law 472 = .ok (.iadd, 1) := dk_96_ (show cL_law.data.toList[472]? = some 0x60 from (LBL_lawr_29 8).trans (by decide +kernel))
theorem dL_law_473 : decode cL_law 473 = .ok (.iaload, 1) := dk_46_ (show cL_law.data.toList[473]? = some 0x2e from (LBL_lawr_29 9).trans (by decide +kernel))
theorem dL_law_474 : decode cL_law 474 = .ok (.invokevirtual 42, 3) := dk_182_ (show cL_law.data.toList[474]? = some 0xb6 from (LBL_lawr_29 10).trans (by decide +kernel)) (show cL_law.data.toList[475]? = some 0x00 from (LBL_lawr_29 11).trans (by decide +kernel)) (show cL_law.data.toList[476]? = some 0x2a from (LBL_lawr_29 12).trans (by decide +kernel)) (by decide)
theorem dL_law_477 : decode cL_law 477 = .ok (.pop, 1) := dk_87_ (show cL_law.data.toList[477]? = some 0x57 from (LBL_lawr_29 13).trans (by decide +kernel))
theorem dL_law_478 : decode cL_law 478 = .ok (.aload_n 2, 1) := dk_44_ (show cL_law.data.toList[478]? = some 0x2c from (LBL_lawr_29 14).trans (by decide +kernel))
theorem dL_law_479 : decode cL_law 479 = .ok (.aload_n 0, 1) := dk_42_ (show cL_law.data.toList[479]? = some 0x2a from (LBL_lawr_29 15).trans (by decide +kernel))
theorem dL_law_480 : decode cL_law 480 = .ok (.iload_n 3, 1) := dk_29_ (show cL_law.data.toList[480]? = some 0x1d from (LBL_lawr_30 0).trans (by decide +kernel))
theorem dL_law_481 : decode cL_law 481 = .ok (.iconst 1, 1) := dk_4_ (show cL_law.data.toList[481]? = some 0x04 from (LBL_lawr_30 1).trans (by decide +kernel))
theorem dL_law_482 : decode cL_law 482 = .ok (.iadd, 1) := dk_96_ (show cL_law.data.toList[482]? = some 0x60 from (LBL_lawr_30 2).trans (by decide +kernel))
theorem dL_law_483 : decode cL_law 483 = .ok (.iaload, 1) := dk_46_ (show cL_law.data.toList[483]? = some 0x2e from (LBL_lawr_30 3).trans (by decide +kernel))
theorem dL_law_484 : decode cL_law 484 = .ok (.aload_n 0, 1) := dk_42_ (show cL_law.data.toList[484]? = some 0x2a from (LBL_lawr_30 4).trans (by decide +kernel))
theorem dL_law_485 : decode cL_law 485 = .ok (.iload_n 3, 1) := dk_29_ (show cL_law.data.toList[485]? = some 0x1d from (LBL_lawr_30 5).trans (by decide +kernel))
theorem dL_law_486 : decode cL_law 486 = .ok (.iconst 2, 1) := dk_5_ (show cL_law.data.toList[486]? = some 0x05 from (LBL_lawr_30 6).trans (by decide +kernel))
theorem dL_law_487 : decode cL_law 487 = .ok (.iadd, 1) := dk_96_ (show cL_law.data.toList[487]? = some 0x60 from (LBL_lawr_30 7).trans (by decide +kernel))
theorem dL_law_488 : decode cL_law 488 = .ok (.iaload, 1) := dk_46_ (show cL_law.data.toList[488]? = some 0x2e from (LBL_lawr_30 8).trans (by decide +kernel))
theorem dL_law_489 : decode cL_law 489 = .ok (.aload_n 0, 1) := dk_42_ (show cL_law.data.toList[489]? = some 0x2a from (LBL_lawr_30 9).trans (by decide +kernel))
theorem dL_law_490 : decode cL_law 490 = .ok (.iload_n 3, 1) := dk_29_ (show cL_law.data.toList[490]? = some 0x1d from (LBL_lawr_30 10).trans (by decide +kernel))
theorem dL_law_491 : decode cL_law 491 = .ok (.iconst 3, 1) := dk_6_ (show cL_law.data.toList[491]? = some 0x06 from (LBL_lawr_30 11).trans (by decide +kernel))
theorem dL_law_492 : decode cL_law 492 = .ok (.iadd, 1) := dk_96_ (show cL_law.data.toList[492]? = some 0x60 from (LBL_lawr_30 12).trans (by decide +kernel))
theorem dL_law_493 : decode cL_law 493 = .ok (.iaload, 1) := dk_46_ (show cL_law.data.toList[493]? = some 0x2e from (LBL_lawr_30 13).trans (by decide +kernel))
theorem dL_law_494 : decode cL_law 494 = .ok (.invokevirtual 45, 3) := dk_182_ (show cL_law.data.toList[494]? = some 0xb6 from (LBL_lawr_30 14).trans (by decide +kernel)) (show cL_law.data.toList[495]? = some 0x00 from (LBL_lawr_30 15).trans (by decide +kernel)) (show cL_law.data.toList[496]? = some 0x2d from (LBL_lawr_31 0).trans (by decide +kernel)) (by decide)
theorem dL_law_497 : decode cL_law 497 = .ok (.pop, 1) := dk_87_ (show cL_law.data.toList[497]? = some 0x57 from (LBL_lawr_31 1).trans (by decide +kernel))
theorem dL_law_498 : decode cL_law 498 = .ok (.goto 984, 3) := dk_167_ (show cL_law.data.toList[498]? = some 0xa7 from (LBL_lawr_31 2).trans (by decide +kernel)) (show cL_law.data.toList[499]? = some 0x03 from (LBL_lawr_31 3).trans (by decide +kernel)) (show cL_law.data.toList[500]? = some 0xd8 from (LBL_lawr_31 4).trans (by decide +kernel)) (by decide)
theorem dL_law_501 : decode cL_law 501 = .ok (.aload_n 1, 1) := dk_43_ (show cL_law.data.toList[501]? = some 0x2b from (LBL_lawr_31 5).trans (by decide +kernel))
theorem dL_law_502 : decode cL_law 502 = .ok (.invokevirtual 46, 3) := dk_182_ (show cL_law.data.toList[502]? = some 0xb6 from (LBL_lawr_31 6).trans (by decide +kernel)) (show cL_law.data.toList[503]? = some 0x00 from (LBL_lawr_31 7).trans (by decide +kernel)) (show cL_law.data.toList[504]? = some 0x2e from (LBL_lawr_31 8).trans (by decide +kernel)) (by decide)
theorem dL_law_505 : decode cL_law 505 = .ok (.pop, 1) := dk_87_ (show cL_law.data.toList[505]? = some 0x57 from (LBL_lawr_31 9).trans (by decide +kernel))
theorem dL_law_506 : decode cL_law 506 = .ok (.aload_n 2, 1) := dk_44_ (show cL_law.data.toList[506]? = some 0x2c from (LBL_lawr_31 10).trans (by decide +kernel))
theorem dL_law_507 : decode cL_law 507 = .ok (.invokevirtual 49, 3) := dk_182_ (show cL_law.data.toList[507]? = some 0xb6 from (LBL_lawr_31 11).trans (by decide +kernel)) (show cL_law.data.toList[508]? = some 0x00 from (LBL_lawr_31 12).trans (by decide +kernel)) (show cL_law.data.toList[509]? = some 0x31 from (LBL_lawr_31 13).trans (by decide +kernel)) (by decide)
theorem dL_law_510 : decode cL_law 510 = .ok (.pop, 1) := dk_87_ (show cL_law.data.toList[510]? = some 0x57 from (LBL_lawr_31 14).trans (by decide +kernel))
theorem dL_law_511 : decode cL_law 511 = .ok (.goto 971, 3) := dk_167_ (show cL_law.data.toList[511]? = some 0xa7 from (LBL_lawr_31 15).trans (by decide +kernel)) (show cL_law.data.toList[512]? = some 0x03 from (LBL_lawr_32 0).trans (by decide +kernel)) (show cL_law.data.toList[513]? = some 0xcb from (LBL_lawr_32 1).trans (by decide +kernel)) (by decide)
theorem dL_law_514 : decode cL_law 514 = .ok (.aload_n 1, 1) := dk_43_ (show cL_law.data.toList[514]? = some 0x2b from (LBL_lawr_32 2).trans (by decide +kernel))
theorem dL_law_515 : decode cL_law 515 = .ok (.aload_n 0, 1) := dk_42_ (show cL_law.data.toList[515]? = some 0x2a from (LBL_lawr_32 3).trans (by decide +kernel))
theorem dL_law_516 : decode cL_law 516 = .ok (.iload_n 3, 1) := dk_29_ (show cL_law.data.toList[516]? = some 0x1d from (LBL_lawr_32 4).trans (by decide +kernel))
theorem dL_law_517 : decode cL_law 517 = .ok (.iconst 1, 1) := dk_4_ (show cL_law.data.toList[517]? = some 0x04 from (LBL_lawr_32 5).trans (by decide +kernel))
theorem dL_law_518 : decode cL_law 518 = .ok (.iadd, 1) := dk_96_ (show cL_law.data.toList[518]? = some 0x60 from (LBL_lawr_32 6).trans (by decide +kernel))
theorem dL_law_519 : decode cL_law 519 = .ok (.iaload, 1) := dk_46_ (show cL_law.data.toList[519]? = some 0x2e from (LBL_lawr_32 7).trans (by decide +kernel))
theorem dL_law_520 : decode cL_law 520 = .ok (.aload_n 0, 1) := dk_42_ (show cL_law.data.toList[520]? = some 0x2a from (LBL_lawr_32 8).trans (by decide +kernel))
theorem dL_law_521 : decode cL_law 521 = .ok (.iload_n 3, 1) := dk_29_ (show cL_law.data.toList[521]? = some 0x1d from (LBL_lawr_32 9).trans (by decide +kernel))
theorem dL_law_522 : decode cL_law 522 = .ok (.iconst 2, 1) := dk_5_ (show cL_law.data.toList[522]? = some 0x05 from (LBL_lawr_32 10).trans (by decide +kernel))
theorem dL_law_523 : decode cL_law 523 = .ok (.iadd, 1) := dk_96_ (show cL_law.data.toList[523]? = some 0x60 from (LBL_lawr_32 11).trans (by decide +kernel))
theorem dL_law_524 : decode cL_law 524 = .ok (.iaload, 1) := dk_46_ (show cL_law.data.toList[524]? = some 0x2e from (LBL_lawr_32 12).trans (by decide +kernel))
theorem dL_law_525 : decode cL_law 525 = .ok (.invokevirtual 50, 3) := dk_182_ (show cL_law.data.toList[525]? = some 0xb6 from (LBL_lawr_32 13).trans (by decide +kernel)) (show cL_law.data.toList[526]? = some 0x00 from (LBL_lawr_32 14).trans (by decide +kernel)) (show cL_law.data.toList[527]? = some 0x32 from (LBL_lawr_32 15).trans (by decide +kernel)) (by decide)
theorem dL_law_528 : decode cL_law 528 = .ok (.pop, 1) := dk_87_ (show cL_law.data.toList[528]? = some 0x57 from (LBL_lawr_33 0).trans (by decide +kernel))
theorem dL_law_529 : decode cL_law 529 = .ok (.aload_n 2, 1) := dk_44_ (show cL_law.data.toList[529]? = some 0x2c from (LBL_lawr_33 1).trans (by decide +kernel))
theorem dL_law_530 : decode cL_law 530 = .ok (.aload_n 0, 1) := dk_42_ (show cL_law.data.toList[530]? = some 0x2a from (LBL_lawr_33 2).trans (by decide +kernel))
theorem dL_law_531 : decode cL_law 531 = .ok (.iload_n 3, 1) := dk_29_ (show cL_law.data.toList[531]? = some 0x1d from (LBL_lawr_33 3).trans (by decide +kernel))
theorem dL_law_532 : decode cL_law 532 = .ok (.iconst 1, 1) := dk_4_ (show cL_law.data.toList[532]? = some 0x04 from (LBL_lawr_33 4).trans (by decide +kernel))
theorem dL_law_533 : decode cL_law 533 = .ok (.iadd, 1) := dk_96_ (show cL_law.data.toList[533]? = some 0x60 from (LBL_lawr_33 5).trans (by decide +kernel))
theorem dL_law_534 : decode cL_law 534 = .ok (.iaload, 1) := dk_46_ (show cL_law.data.toList[534]? = some 0x2e from (LBL_lawr_33 6).trans (by decide +kernel))
theorem dL_law_535 : decode cL_law 535 = .ok (.aload_n 0, 1) := dk_42_ (show cL_law.data.toList[535]? = some 0x2a from (LBL_lawr_33 7).trans (by decide +kernel))
theorem dL_law_536 : decode cL_law 536 = .ok (.iload_n 3, 1) := dk_29_ (show cL_law.data.toList[536]? = some 0x1d from (LBL_lawr_33 8).trans (by decide +kernel))
theorem dL_law_537 : decode cL_law 537 = .ok (.iconst 2, 1) := dk_5_ (show cL_law.data.toList[537]? = some 0x05 from (LBL_lawr_33 9).trans (by decide +kernel))
theorem dL_law_538 : decode cL_law 538 = .ok (.iadd, 1) := dk_96_ (show cL_law.data.toList[538]? = some 0x60 from (LBL_lawr_33 10).trans (by decide +kernel))
theorem dL_law_539 : decode cL_law 539 = .ok (.iaload, 1) := dk_46_ (show cL_law.data.toList[539]? = some 0x2e from (LBL_lawr_33 11).trans (by decide +kernel))
theorem dL_law_540 : decode cL_law 540 = .ok (.invokevirtual 53, 3) := dk_182_ (show cL_law.data.toList[540]? = some 0xb6 from (LBL_lawr_33 12).trans (by decide +kernel)) (show cL_law.data.toList[541]? = some 0x00 from (LBL_lawr_33 13).trans (by decide +kernel)) (show cL_law.data.toList[542]? = some 0x35 from (LBL_lawr_33 14).trans (by decide +kernel)) (by decide)
theorem dL_law_543 : decode cL_law 543 = .ok (.pop, 1) := dk_87_ (show cL_law.data.toList[543]? = some 0x57 from (LBL_lawr_33 15).trans (by decide +kernel))
theorem dL_law_544 : decode cL_law 544 = .ok (.goto 938, 3) := dk_167_ (show cL_law.data.toList[544]? = some 0xa7 from (LBL_lawr_34 0).trans (by decide +kernel)) (show cL_law.data.toList[545]? = some 0x03 from (LBL_lawr_34 1).trans (by decide +kernel)) (show cL_law.data.toList[546]? = some 0xaa from (LBL_lawr_34 2).trans (by decide +kernel)) (by decide)
theorem dL_law_547 : decode cL_law 547 = .ok (.aload_n 1, 1) := dk_43_ (show cL_law.data.toList[547]? = some 0x2b from (LBL_lawr_34 3).trans (by decide +kernel))
theorem dL_law_548 : decode cL_law 548 = .ok (.aload_n 0, 1) := dk_42_ (show cL_law.data.toList[548]? = some 0x2a from (LBL_lawr_34 4).trans (by decide +kernel))
theorem dL_law_549 : decode cL_law 549 = .ok (.iload_n 3, 1) := dk_29_ (show cL_law.data.toList[549]? = some 0x1d from (LBL_lawr_34 5).trans (by decide +kernel))
theorem dL_law_550 : decode cL_law 550 = .ok (.iconst 1, 1) := dk_4_ (show cL_law.data.toList[550]? = some 0x04 from (LBL_lawr_34 6).trans (by decide +kernel))
theorem dL_law_551 : decode cL_law 551 = .ok (.iadd, 1) := dk_96_ (show cL_law.data.toList[551]? = some 0x60 from (LBL_lawr_34 7).trans (by decide +kernel))
theorem dL_law_552 : decode cL_law 552 = .ok (.iaload, 1) := dk_46_ (show cL_law.data.toList[552]? = some 0x2e from (LBL_lawr_34 8).trans (by decide +kernel))
theorem dL_law_553 : decode cL_law 553 = .ok (.aload_n 0, 1) := dk_42_ (show cL_law.data.toList[553]? = some 0x2a from (LBL_lawr_34 9).trans (by decide +kernel))
theorem dL_law_554 : decode cL_law 554 = .ok (.iload_n 3, 1) := dk_29_ (show cL_law.data.toList[554]? = some 0x1d from (LBL_lawr_34 10).trans (by decide +kernel))
theorem dL_law_555 : decode cL_law 555 = .ok (.iconst 2, 1) := dk_5_ (show cL_law.data.toList[555]? = some 0x05 from (LBL_lawr_34 11).trans (by decide +kernel))
theorem dL_law_556 : decode cL_law 556 = .ok (.iadd, 1) := dk_96_ (show cL_law.data.toList[556]? = some 0x60 from (LBL_lawr_34 12).trans (by decide +kernel))
theorem dL_law_557 : decode cL_law 557 = .ok (.iaload, 1) := dk_46_ (show cL_law.data.toList[557]? = some 0x2e from (LBL_lawr_34 13).trans (by decide +kernel))
theorem dL_law_558 : decode cL_law 558 = .ok (.invokevirtual 54, 3) := dk_182_ (show cL_law.data.toList[558]? = some 0xb6 from (LBL_lawr_34 14).trans (by decide +kernel)) (show cL_law.data.toList[559]? = some 0x00 from (LBL_lawr_34 15).trans (by decide +kernel)) (show cL_law.data.toList[560]? = some 0x36 from (LBL_lawr_35 0).trans (by decide +kernel)) (by decide)
theorem dL_law_561 : decode cL_law 561 = .ok (.pop, 1) := dk_87_ (show cL_law.data.toList[561]? = some 0x57 from (LBL_lawr_35 1).trans (by decide +kernel))
theorem dL_law_562 : decode cL_law 562 = .ok (.aload_n 2, 1) := dk_44_ (show cL_law.data.toList[562]? = some 0x2c from (LBL_lawr_35 2).trans (by decide +kernel))
theorem dL_law_563 : decode cL_law 563 = .ok (.aload_n 0, 1) := dk_42_ (show cL_law.data.toList[563]? = some 0x2a from (LBL_lawr_35 3).trans (by decide +kernel))
theorem dL_law_564 : decode cL_law 564 = .ok (.iload_n 3, 1) := dk_29_ (show cL_law.data.toList[564]? = some 0x1d from (LBL_lawr_35 4).trans (by decide +kernel))
theorem dL_law_565 : decode cL_law 565 = .ok (.iconst 1, 1) := dk_4_ (show cL_law.data.toList[565]? = some 0x04 from (LBL_lawr_35 5).trans (by decide +kernel))
theorem dL_law_566 : decode cL_law 566 = .ok (.iadd, 1) := dk_96_ (show cL_law.data.toList[566]? = some 0x60 from (LBL_lawr_35 6).trans (by decide +kernel))
theorem dL_law_567 : decode cL_law 567 = .ok (.iaload, 1) := dk_46_ (show cL_law.data.toList[567]? = some 0x2e from (LBL_lawr_35 7).trans (by decide +kernel))
theorem dL_law_568 : decode cL_law 568 = .ok (.aload_n 0, 1) := dk_42_ (show cL_law.data.toList[568]? = some 0x2a from (LBL_lawr_35 8).trans (by decide +kernel))
theorem dL_law_569 : decode cL_law 569 = .ok (.iload_n 3, 1) := dk_29_ (show cL_law.data.toList[569]? = some 0x1d from (LBL_lawr_35 9).trans (by decide +kernel))
theorem dL_law_570 : decode cL_law 570 = .ok (.iconst 2, 1) := dk_5_ (show cL_law.data.toList[570]? = some 0x05 from (LBL_lawr_35 10).trans (by decide +kernel))
theorem dL_law_571 : decode cL_law 571 = .ok (.iadd, 1) := dk_96_ (show cL_law.data.toList[571]? = some 0x60 from (LBL_lawr_35 11).trans (by decide +kernel))
theorem dL_law_572 : decode cL_law 572 = .ok (.iaload, 1) := dk_46_ (show cL_law.data.toList[572]? = some 0x2e from (LBL_lawr_35 12).trans (by decide +kernel))
theorem dL_law_573 : decode cL_law 573 = .ok (.invokevirtual 57, 3) := dk_182_ (show cL_law.data.toList[573]? = some 0xb6 from (LBL_lawr_35 13).trans (by decide +kernel)) (show cL_law.data.toList[574]? = some 0x00 from (LBL_lawr_35 14).trans (by decide +kernel)) (show cL_law.data.toList[575]? = some 0x39 from (LBL_lawr_35 15).trans (by decide +kernel)) (by decide)
theorem dL_law_576 : decode cL_law 576 = .ok (.pop, 1) := dk_87_ (show cL_law.data.toList[576]? = some 0x57 from (LBL_lawr_36 0).trans (by decide +kernel))
theorem dL_law_577 : decode cL_law 577 = .ok (.goto 905, 3) := dk_167_ (show cL_law.data.toList[577]? = some 0xa7 from (LBL_lawr_36 1).trans (by decide +kernel)) (show cL_law.data.toList[578]? = some 0x03 from (LBL_lawr_36 2).trans (by decide +kernel)) (show cL_law.data.toList[579]? = some 0x89 from (LBL_lawr_36 3).trans (by decide +kernel)) (by decide)
theorem dL_law_580 : decode cL_law 580 = .ok (.aload_n 1, 1) := dk_43_ (show cL_law.data.toList[580]? = some 0x2b from (LBL_lawr_36 4).trans (by decide +kernel))
theorem dL_law_581 : decode cL_law 581 = .ok (.aload_n 0, 1) := dk_42_ (show cL_law.data.toList[581]? = some 0x2a from (LBL_lawr_36 5).trans (by decide +kernel))
theorem dL_law_582 : decode cL_law 582 = .ok (.iload_n 3, 1) := dk_29_ (show cL_law.data.toList[582]? = some 0x1d from (LBL_lawr_36 6).trans (by decide +kernel))
theorem dL_law_583 : decode cL_law 583 = .ok (.iconst 1, 1) := dk_4_ (show cL_law.data.toList[583]? = some 0x04 from (LBL_lawr_36 7).trans (by decide +kernel))
theorem dL_law_584 : decode cL_law 584 = .ok (.iadd, 1) := dk_96_ (show cL_law.data.toList[584]? = some 0x60 from (LBL_lawr_36 8).trans (by decide +kernel))
theorem dL_law_585 : decode cL_law 585 = .ok (.iaload, 1) := dk_46_ (show cL_law.data.toList[585]? = some 0x2e from (LBL_lawr_36 9).trans (by decide +kernel))
theorem dL_law_586 : decode cL_law 586 = .ok (.aload_n 0, 1) := dk_42_ (show cL_law.data.toList[586]? = some 0x2a from (LBL_lawr_36 10).trans (by decide +kernel))
theorem dL_law_587 : decode cL_law 587 = .ok (.iload_n 3, 1) := dk_29_ (show cL_law.data.toList[587]? = some 0x1d from (LBL_lawr_36 11).trans (by decide +kernel))
theorem dL_law_588 : decode cL_law 588 = .ok (.iconst 2, 1) := dk_5_ (show cL_law.data.toList[588]? = some 0x05 from (LBL_lawr_36 12).trans (by decide +kernel))
theorem dL_law_589 : decode cL_law 589 = .ok (.iadd, 1) := dk_96_ (show cL_law.data.toList[589]? = some 0x60 from (LBL_lawr_36 13).trans (by decide +kernel))
theorem dL_law_590 : decode cL_law 590 = .ok (.iaload, 1) := dk_46_ (show cL_law.data.toList[590]? = some 0x2e from (LBL_lawr_36 14).trans (by decide +kernel))
theorem dL_law_591 : decode cL_law 591 = .ok (.invokevirtual 58, 3) := dk_182_ (show cL_law.data.toList[591]? = some 0xb6 from (LBL_lawr_36 15).trans (by decide +kernel)) (show cL_law.data.toList[592]? = some 0x00 from (LBL_lawr_37 0).trans (by decide +kernel)) (show cL_law.data.toList[593]? = some 0x3a from (LBL_lawr_37 1).trans (by decide +kernel)) (by decide)
theorem dL_law_594 : decode cL_law 594 = .ok (.pop, 1) := dk_87_ (show cL_law.data.toList[594]? = some 0x57 from (LBL_lawr_37 2).trans (by decide +kernel))
theorem dL_law_595 : decode cL_law 595 = .ok (.aload_n 2, 1) := dk_44_ (show cL_law.data.toList[595]? = some 0x2c from (LBL_lawr_37 3).trans (by decide +kernel))
theorem dL_law_596 : decode cL_law 596 = .ok (.aload_n 0, 1) := dk_42_ (show cL_law.data.toList[596]? = some 0x2a from (LBL_lawr_37 4).trans (by decide +kernel))
theorem dL_law_597 : decode cL_law 597 = .ok (.iload_n 3, 1) := dk_29_ (show cL_law.data.toList[597]? = some 0x1d from (LBL_lawr_37 5).trans (by decide +kernel))
theorem dL_law_598 : decode cL_law 598 = .ok (.iconst 1, 1) := dk_4_ (show cL_law.data.toList[598]? = some 0x04 from (LBL_lawr_37 6).trans (by decide +kernel))
theorem dL_law_599 : decode cL_law 599 = .ok (.iadd, 1) := dk_96_ (show cL_law.data.toList[599]? = some 0x60 from (LBL_lawr_37 7).trans (by decide +kernel))
theorem dL_law_600 : decode cL_law 600 = .ok (.iaload, 1) := dk_46_ (show cL_law.data.toList[600]? = some 0x2e from (LBL_lawr_37 8).trans (by decide +kernel))
theorem dL_law_601 : decode cL_law 601 = .ok (.aload_n 0, 1) := dk_42_ (show cL_law.data.toList[601]? = some 0x2a from (LBL_lawr_37 9).trans (by decide +kernel))
theorem dL_law_602 : decode cL_law 602 = .ok (.iload_n 3, 1) := dk_29_ (show cL_law.data.toList[602]? = some 0x1d from (LBL_lawr_37 10).trans (by decide +kernel))
theorem dL_law_603 : decode cL_law 603 = .ok (.iconst 2, 1) := dk_5_ (show cL_law.data.toList[603]? = some 0x05 from (LBL_lawr_37 11).trans (by decide +kernel))
theorem dL_law_604 : decode cL_law 604 = .ok (.iadd, 1) := dk_96_ (show cL_law.data.toList[604]? = some 0x60 from (LBL_lawr_37 12).trans (by decide +kernel))
theorem dL_law_605 : decode cL_law 605 = .ok (.iaload, 1) := dk_46_ (show cL_law.data.toList[605]? = some 0x2e from (LBL_lawr_37 13).trans (by decide +kernel))
theorem dL_law_606 : decode cL_law 606 = .ok (.invokevirtual 61, 3) := dk_182_ (show cL_law.data.toList[606]? = some 0xb6 from (LBL_lawr_37 14).trans (by decide +kernel)) (show cL_law.data.toList[607]? = some 0x00 from (LBL_lawr_37 15).trans (by decide +kernel)) (show cL_law.data.toList[608]? = some 0x3d from (LBL_lawr_38 0).trans (by decide +kernel)) (by decide)
theorem dL_law_609 : decode cL_law 609 = .ok (.pop, 1) := dk_87_ (show cL_law.data.toList[609]? = some 0x57 from (LBL_lawr_38 1).trans (by decide +kernel))
theorem dL_law_610 : decode cL_law 610 = .ok (.goto 872, 3) := dk_167_ (show cL_law.data.toList[610]? = some 0xa7 from (LBL_lawr_38 2).trans (by decide +kernel)) (show cL_law.data.toList[611]? = some 0x03 from (LBL_lawr_38 3).trans (by decide +kernel)) (show cL_law.data.toList[612]? = some 0x68 from (LBL_lawr_38 4).trans (by decide +kernel)) (by decide)
theorem dL_law_613 : decode cL_law 613 = .ok (.aload_n 1, 1) := dk_43_ (show cL_law.data.toList[613]? = some 0x2b from (LBL_lawr_38 5).trans (by decide +kernel))
theorem dL_law_614 : decode cL_law 614 = .ok (.aload_n 0, 1) := dk_42_ (show cL_law.data.toList[614]? = some 0x2a from (LBL_lawr_38 6).trans (by decide +kernel))
theorem dL_law_615 : decode cL_law 615 = .ok (.iload_n 3, 1) := dk_29_ (show cL_law.data.toList[615]? = some 0x1d from (LBL_lawr_38 7).trans (by decide +kernel))
theorem dL_law_616 : decode cL_law 616 = .ok (.iconst 1, 1) := dk_4_ (show cL_law.data.toList[616]? = some 0x04 from (LBL_lawr_38 8).trans (by decide +kernel))
theorem dL_law_617 : decode cL_law 617 = .ok (.iadd, 1) := dk_96_ (show cL_law.data.toList[617]? = some 0x60 from (LBL_lawr_38 9).trans (by decide +kernel))
theorem dL_law_618 : decode cL_law 618 = .ok (.iaload, 1) := dk_46_ (show cL_law.data.toList[618]? = some 0x2e from (LBL_lawr_38 10).trans (by decide +kernel))
theorem dL_law_619 : decode cL_law 619 = .ok (.invokevirtual 62, 3) := dk_182_ (show cL_law.data.toList[619]? = some 0xb6 from (LBL_lawr_38 11).trans (by decide +kernel)) (show cL_law.data.toList[620]? = some 0x00 from (LBL_lawr_38 12).trans (by decide +kernel)) (show cL_law.data.toList[621]? = some 0x3e from (LBL_lawr_38 13).trans (by decide +kernel)) (by decide)
theorem dL_law_622 : decode cL_law 622 = .ok (.pop, 1) := dk_87_ (show cL_law.data.toList[622]? = some 0x57 from (LBL_lawr_38 14).trans (by decide +kernel))
theorem dL_law_623 : decode cL_law 623 = .ok (.aload_n 2, 1) := dk_44_ (show cL_law.data.toList[623]? = some 0x2c from (LBL_lawr_38 15).trans (by decide +kernel))
theorem dL_law_624 : decode cL_law 624 = .ok (.aload_n 0, 1) := dk_42_ (show cL_law.data.toList[624]? = some 0x2a from (LBL_lawr_39 0).trans (by decide +kernel))
theorem dL_law_625 : decode cL_law 625 = .ok (.iload_n 3, 1) := dk_29_ (show cL_law.data.toList[625]? = some 0x1d from (LBL_lawr_39 1).trans (by decide +kernel))
theorem dL_law_626 : decode cL_law 626 = .ok (.iconst 1, 1) := dk_4_ (show cL_law.data.toList[626]? = some 0x04 from (LBL_lawr_39 2).trans (by decide +kernel))
theorem dL_law_627 : decode cL_law 627 = .ok (.iadd, 1) := dk_96_ (show cL_law.data.toList[627]? = some 0x60 from (LBL_lawr_39 3).trans (by decide +kernel))
theorem dL_law_628 : decode cL_law 628 = .ok (.iaload, 1) := dk_46_ (show cL_law.data.toList[628]? = some 0x2e from (LBL_lawr_39 4).trans (by decide +kernel))
theorem dL_law_629 : decode cL_law 629 = .ok (.invokevirtual 66, 3) := dk_182_ (show cL_law.data.toList[629]? = some 0xb6 from (LBL_lawr_39 5).trans (by decide +kernel)) (show cL_law.data.toList[630]? = some 0x00 from (LBL_lawr_39 6).trans (by decide +kernel)) (show cL_law.data.toList[631]? = some 0x42 from (LBL_lawr_39 7).trans (by decide +kernel)) (by decide)
theorem dL_law_632 : decode cL_law 632 = .ok (.pop, 1) := dk_87_ (show cL_law.data.toList[632]? = some 0x57 from (LBL_lawr_39 8).trans (by decide +kernel))
theorem dL_law_633 : decode cL_law 633 = .ok (.goto 849, 3) := dk_167_ (show cL_law.data.toList[633]? = some 0xa7 from (LBL_lawr_39 9).trans (by decide +kernel)) (show cL_law.data.toList[634]? = some 0x03 from (LBL_lawr_39 10).trans (by decide +kernel)) (show cL_law.data.toList[635]? = some 0x51 from (LBL_lawr_39 11).trans (by decide +kernel)) (by decide)
theorem dL_law_636 : decode cL_law 636 = .ok (.aload_n 1, 1) := dk_43_ (show cL_law.data.toList[636]? = some 0x2b from (LBL_lawr_39 12).trans (by decide +kernel))
theorem dL_law_637 : decode cL_law 637 = .ok (.aload_n 0, 1) := dk_42_ (show cL_law.data.toList[637]? = some 0x2a from (LBL_lawr_39 13).trans (by decide +kernel))
theorem dL_law_638 : decode cL_law 638 = .ok (.iload_n 3, 1) := dk_29_ (show cL_law.data.toList[638]? = some 0x1d from (LBL_lawr_39 14).trans (by decide +kernel))
theorem dL_law_639 : decode cL_law 639 = .ok (.iconst 1, 1) := dk_4_ (show cL_law.data.toList[639]? = some 0x04 from (LBL_lawr_39 15).trans (by decide +kernel))
theorem dL_law_640 : decode cL_law 640 = .ok (.iadd, 1) := dk_96_ (show cL_law.data.toList[640]? = some 0x60 from (LBL_lawr_40 0).trans (by decide +kernel))
theorem dL_law_641 : decode cL_law 641 = .ok (.iaload, 1) := dk_46_ (show cL_law.data.toList[641]? = some 0x2e from (LBL_lawr_40 1).trans (by decide +kernel))
theorem dL_law_642 : decode cL_law 642 = .ok (.aload_n 0, 1) := dk_42_ (show cL_law.data.toList[642]? = some 0x2a from (LBL_lawr_40 2).trans (by decide +kernel))
theorem dL_law_643 : decode cL_law 643 = .ok (.iload_n 3, 1) := dk_29_ (show cL_law.data.toList[643]? = some 0x1d from (LBL_lawr_40 3).trans (by decide +kernel))
theorem dL_law_644 : decode cL_law 644 = .ok (.iconst 2, 1) := dk_5_ (show cL_law.data.toList[644]? = some 0x05 from (LBL_lawr_40 4).trans (by decide +kernel))
theorem dL_law_645 : decode cL_law 645 = .ok (.iadd, 1) := dk_96_ (show cL_law.data.toList[645]? = some 0x60 from (LBL_lawr_40 5).trans (by decide +kernel))
theorem dL_law_646 : decode cL_law 646 = .ok (.iaload, 1) := dk_46_ (show cL_law.data.toList[646]? = some 0x2e from (LBL_lawr_40 6).trans (by decide +kernel))
theorem dL_law_647 : decode cL_law 647 = .ok (.invokevirtual 67, 3) := dk_182_ (show cL_law.data.toList[647]? = some 0xb6 from (LBL_lawr_40 7).trans (by decide +kernel)) (show cL_law.data.toList[648]? = some 0x00 from (LBL_lawr_40 8).trans (by decide +kernel)) (show cL_law.data.toList[649]? = some 0x43 from (LBL_lawr_40 9).trans (by decide +kernel)) (by decide)
theorem dL_law_650 : decode cL_law 650 = .ok (.pop, 1) := dk_87_ (show cL_law.data.toList[650]? = some 0x57 from (LBL_lawr_40 10).trans (by decide +kernel))
theorem dL_law_651 : decode cL_law 651 = .ok (.aload_n 2, 1) := dk_44_ (show cL_law.data.toList[651]? = some 0x2c from (LBL_lawr_40 11).trans (by decide +kernel))
theorem dL_law_652 : decode cL_law 652 = .ok (.aload_n 0, 1) := dk_42_ (show cL_law.data.toList[652]? = some 0x2a from (LBL_lawr_40 12).trans (by decide +kernel))
theorem dL_law_653 : decode cL_law 653 = .ok (.iload_n 3, 1) := dk_29_ (show cL_law.data.toList[653]? = some 0x1d from (LBL_lawr_40 13).trans (by decide +kernel))
theorem dL_law_654 : decode cL_law 654 = .ok (.iconst 1, 1) := dk_4_ (show cL_law.data.toList[654]? = some 0x04 from (LBL_lawr_40 14).trans (by decide +kernel))
theorem dL_law_655 : decode cL_law 655 = .ok (.iadd, 1) := dk_96_ (show cL_law.data.toList[655]? = some 0x60 from (LBL_lawr_40 15).trans (by decide +kernel))
theorem dL_law_656 : decode cL_law 656 = .ok (.iaload, 1) := dk_46_ (show cL_law.data.toList[656]? = some 0x2e from (LBL_lawr_41 0).trans (by decide +kernel))
theorem dL_law_657 : decode cL_law 657 = .ok (.aload_n 0, 1) := dk_42_ (show cL_law.data.toList[657]? = some 0x2a from (LBL_lawr_41 1).trans (by decide +kernel))
theorem dL_law_658 : decode cL_law 658 = .ok (.iload_n 3, 1) := dk_29_ (show cL_law.data.toList[658]? = some 0x1d from (LBL_lawr_41 2).trans (by decide +kernel))
theorem dL_law_659 : decode cL_law 659 = .ok (.iconst 2, 1) := dk_5_ (show cL_law.data.toList[659]? = some 0x05 from (LBL_lawr_41 3).trans (by decide +kernel))
theorem dL_law_660 : decode cL_law 660 = .ok (.iadd, 1) := dk_96_ (show cL_law.data.toList[660]? = some 0x60 from (LBL_lawr_41 4).trans (by decide +kernel))
theorem dL_law_661 : decode cL_law 661 = .ok (.iaload, 1) := dk_46_ (show cL_law.data.toList[661]? = some 0x2e from (LBL_lawr_41 5).trans (by decide +kernel))
theorem dL_law_662 : decode cL_law 662 = .ok (.invokevirtual 70, 3) := dk_182_ (show cL_law.data.toList[662]? = some 0xb6 from (LBL_lawr_41 6).trans (by decide +kernel)) (show cL_law.data.toList[663]? = some 0x00 from (LBL_lawr_41 7).trans (by decide +kernel)) (show cL_law.data.toList[664]? = some 0x46 from (LBL_lawr_41 8).trans (by decide +kernel)) (by decide)
theorem dL_law_665 : decode cL_law 665 = .ok (.pop, 1) := dk_87_ (show cL_law.data.toList[665]? = some 0x57 from (LBL_lawr_41 9).trans (by decide +kernel))
theorem dL_law_666 : decode cL_law 666 = .ok (.goto 816, 3) := dk_167_ (show cL_law.data.toList[666]? = some 0xa7 from (LBL_lawr_41 10).trans (by decide +kernel)) (show cL_law.data.toList[667]? = some 0x03 from (LBL_lawr_41 11).trans (by decide +kernel)) (show cL_law.data.toList[668]? = some 0x30 from (LBL_lawr_41 12).trans (by decide +kernel)) (by decide)
theorem dL_law_669 : decode cL_law 669 = .ok (.aload_n 1, 1) := dk_43_ (show cL_law.data.toList[669]? = some 0x2b from (LBL_lawr_41 13).trans (by decide +kernel))
theorem dL_law_670 : decode cL_law 670 = .ok (.aload_n 0, 1) := dk_42_ (show cL_law.data.toList[670]? = some 0x2a from (LBL_lawr_41 14).trans (by decide +kernel))
theorem dL_law_671 : decode cL_law 671 = .ok (.iload_n 3, 1) := dk_29_ (show cL_law.data.toList[671]? = some 0x1d from (LBL_lawr_41 15).trans (by decide +kernel))
theorem dL_law_672 : decode cL_law 672 = .ok (.iconst 1, 1) := dk_4_ (show cL_law.data.toList[672]? = some 0x04 from (LBL_lawr_42 0).trans (by decide +kernel))
theorem dL_law_673 : decode cL_law 673 = .ok (.iadd, 1) := dk_96_ (show cL_law.data.toList[673]? = some 0x60 from (LBL_lawr_42 1).trans (by decide +kernel))
theorem dL_law_674 : decode cL_law 674 = .ok (.iaload, 1) := dk_46_ (show cL_law.data.toList[674]? = some 0x2e from (LBL_lawr_42 2).trans (by decide +kernel))
theorem dL_law_675 : decode cL_law 675 = .ok (.aload_n 0, 1) := dk_42_ (show cL_law.data.toList[675]? = some 0x2a from (LBL_lawr_42 3).trans (by decide +kernel))
theorem dL_law_676 : decode cL_law 676 = .ok (.iload_n 3, 1) := dk_29_ (show cL_law.data.toList[676]? = some 0x1d from (LBL_lawr_42 4).trans (by decide +kernel))
theorem dL_law_677 : decode cL_law 677 = .ok (.iconst 2, 1) := dk_5_ (show cL_law.data.toList[677]? = some 0x05 from (LBL_lawr_42 5).trans (by decide +kernel))
theorem dL_law_678 : decode cL_law 678 = .ok (.iadd, 1) := dk_96_ (show cL_law.data.toList[678]? = some 0x60 from (LBL_lawr_42 6).trans (by decide +kernel))
theorem dL_law_679 : decode cL_law 679 = .ok (.iaload, 1) := dk_46_ (show cL_law.data.toList[679]? = some 0x2e from (LBL_lawr_42 7).trans (by decide +kernel))
theorem dL_law_680 : decode cL_law 680 = .ok (.invokevirtual 71, 3) := dk_182_ (show cL_law.data.toList[680]? = some 0xb6 from (LBL_lawr_42 8).trans (by decide +kernel)) (show cL_law.data.toList[681]? = some 0x00 from (LBL_lawr_42 9).trans (by decide +kernel)) (show cL_law.data.toList[682]? = some 0x47 from (LBL_lawr_42 10).trans (by decide +kernel)) (by decide)
theorem dL_law_683 : decode cL_law 683 = .ok (.pop, 1) := dk_87_ (show cL_law.data.toList[683]? = some 0x57 from (LBL_lawr_42 11).trans (by decide +kernel))
theorem dL_law_684 : decode cL_law 684 = .ok (.aload_n 2, 1) := dk_44_ (show cL_law.data.toList[684]? = some 0x2c from (LBL_lawr_42 12).trans (by decide +kernel))
theorem dL_law_685 : decode cL_law 685 = .ok (.aload_n 0, 1) := dk_42_ (show cL_law.data.toList[685]? = some 0x2a from (LBL_lawr_42 13).trans (by decide +kernel))
theorem dL_law_686 : decode cL_law 686 = .ok (.iload_n 3, 1) := dk_29_ (show cL_law.data.toList[686]? = some 0x1d from (LBL_lawr_42 14).trans (by decide +kernel))
theorem dL_law_687 : decode cL_law 687 = .ok (.iconst 1, 1) := dk_4_ (show cL_law.data.toList[687]? = some 0x04 from (LBL_lawr_42 15).trans (by decide +kernel))
theorem dL_law_688 : decode cL_law 688 = .ok (.iadd, 1) := dk_96_ (show cL_law.data.toList[688]? = some 0x60 from (LBL_lawr_43 0).trans (by decide +kernel))
theorem dL_law_689 : decode cL_law 689 = .ok (.iaload, 1) := dk_46_ (show cL_law.data.toList[689]? = some 0x2e from (LBL_lawr_43 1).trans (by decide +kernel))
theorem dL_law_690 : decode cL_law 690 = .ok (.aload_n 0, 1) := dk_42_ (show cL_law.data.toList[690]? = some 0x2a from (LBL_lawr_43 2).trans (by decide +kernel))
theorem dL_law_691 : decode cL_law 691 = .ok (.iload_n 3, 1) := dk_29_ (show cL_law.data.toList[691]? = some 0x1d from (LBL_lawr_43 3).trans (by decide +kernel))
theorem dL_law_692 : decode cL_law 692 = .ok (.iconst 2, 1) := dk_5_ (show cL_law.data.toList[692]? = some 0x05 from (LBL_lawr_43 4).trans (by decide +kernel))
theorem dL_law_693 : decode cL_law 693 = .ok (.iadd, 1) := dk_96_ (show cL_law.data.toList[693]? = some 0x60 from (LBL_lawr_43 5).trans (by decide +kernel))
theorem dL_law_694 : decode cL_law 694 = .ok (.iaload, 1) := dk_46_ (show cL_law.data.toList[694]? = some 0x2e from (LBL_lawr_43 6).trans (by decide +kernel))
theorem dL_law_695 : decode cL_law 695 = .ok (.invokevirtual 74, 3) := dk_182_ (show cL_law.data.toList[695]? = some 0xb6 from (LBL_lawr_43 7).trans (by decide +kernel)) (show cL_law.data.toList[696]? = some 0x00 from (LBL_lawr_43 8).trans (by decide +kernel)) (show cL_law.data.toList[697]? = some 0x4a from (LBL_lawr_43 9).trans (by decide +kernel)) (by decide)
theorem dL_law_698 : decode cL_law 698 = .ok (.pop, 1) := dk_87_ (show cL_law.data.toList[698]? = some 0x57 from (LBL_lawr_43 10).trans (by decide +kernel))
theorem dL_law_699 : decode cL_law 699 = .ok (.goto 783, 3) := dk_167_ (show cL_law.data.toList[699]? = some 0xa7 from (LBL_lawr_43 11).trans (by decide +kernel)) (show cL_law.data.toList[700]? = some 0x03 from (LBL_lawr_43 12).trans (by decide +kernel)) (show cL_law.data.toList[701]? = some 0x0f from (LBL_lawr_43 13).trans (by decide +kernel)) (by decide)
theorem dL_law_702 : decode cL_law 702 = .ok (.aload_n 1, 1) := dk_43_ (show cL_law.data.toList[702]? = some 0x2b from (LBL_lawr_43 14).trans (by decide +kernel))
theorem dL_law_703 : decode cL_law 703 = .ok (.invokevirtual 75, 3) := dk_182_ (show cL_law.data.toList[703]? = some 0xb6 from (LBL_lawr_43 15).trans (by decide +kernel)) (show cL_law.data.toList[704]? = some 0x00 from (LBL_lawr_44 0).trans (by decide +kernel)) (show cL_law.data.toList[705]? = some 0x4b from (LBL_lawr_44 1).trans (by decide +kernel)) (by decide)
theorem dL_law_706 : decode cL_law 706 = .ok (.pop, 1) := dk_87_ (show cL_law.data.toList[706]? = some 0x57 from (LBL_lawr_44 2).trans (by decide +kernel))
theorem dL_law_707 : decode cL_law 707 = .ok (.aload_n 2, 1) := dk_44_ (show cL_law.data.toList[707]? = some 0x2c from (LBL_lawr_44 3).trans (by decide +kernel))
theorem dL_law_708 : decode cL_law 708 = .ok (.invokevirtual 78, 3) := dk_182_ (show cL_law.data.toList[708]? = some 0xb6 from (LBL_lawr_44 4).trans (by decide +kernel)) (show cL_law.data.toList[709]? = some 0x00 from (LBL_lawr_44 5).trans (by decide +kernel)) (show cL_law.data.toList[710]? = some 0x4e from (LBL_lawr_44 6).trans (by decide +kernel)) (by decide)
theorem dL_law_711 : decode cL_law 711 = .ok (.pop, 1) := dk_87_ (show cL_law.data.toList[711]? = some 0x57 from (LBL_lawr_44 7).trans (by decide +kernel))
theorem dL_law_712 : decode cL_law 712 = .ok (.goto 770, 3) := dk_167_ (show cL_law.data.toList[712]? = some 0xa7 from (LBL_lawr_44 8).trans (by decide +kernel)) (show cL_law.data.toList[713]? = some 0x03 from (LBL_lawr_44 9).trans (by decide +kernel)) (show cL_law.data.toList[714]? = some 0x02 from (LBL_lawr_44 10).trans (by decide +kernel)) (by decide)
theorem dL_law_715 : decode cL_law 715 = .ok (.aload_n 1, 1) := dk_43_ (show cL_law.data.toList[715]? = some 0x2b from (LBL_lawr_44 11).trans (by decide +kernel))
theorem dL_law_716 : decode cL_law 716 = .ok (.aload_n 0, 1) := dk_42_ (show cL_law.data.toList[716]? = some 0x2a from (LBL_lawr_44 12).trans (by decide +kernel))
theorem dL_law_717 : decode cL_law 717 = .ok (.iload_n 3, 1) := dk_29_ (show cL_law.data.toList[717]? = some 0x1d from (LBL_lawr_44 13).trans (by decide +kernel))
theorem dL_law_718 : decode cL_law 718 = .ok (.iconst 1, 1) := dk_4_ (show cL_law.data.toList[718]? = some 0x04 from (LBL_lawr_44 14).trans (by decide +kernel))
theorem dL_law_719 : decode cL_law 719 = .ok (.iadd, 1) := dk_96_ (show cL_law.data.toList[719]? = some 0x60 from (LBL_lawr_44 15).trans (by decide +kernel))
theorem dL_law_720 : decode cL_law 720 = .ok (.iaload, 1) := dk_46_ (show cL_law.data.toList[720]? = some 0x2e from (LBL_lawr_45 0).trans (by decide +kernel))
theorem dL_law_721 : decode cL_law 721 = .ok (.invokevirtual 79, 3) := dk_182_ (show cL_law.data.toList[721]? = some 0xb6 from (LBL_lawr_45 1).trans (by decide +kernel)) (show cL_law.data.toList[722]? = some 0x00 from (LBL_lawr_45 2).trans (by decide +kernel)) (show cL_law.data.toList[723]? = some 0x4f from (LBL_lawr_45 3).trans (by decide +kernel)) (by decide)
theorem dL_law_724 : decode cL_law 724 = .ok (.pop, 1) := dk_87_ (show cL_law.data.toList[724]? = some 0x57 from (LBL_lawr_45 4).trans (by decide +kernel))
theorem dL_law_725 : decode cL_law 725 = .ok (.aload_n 2, 1) := dk_44_ (show cL_law.data.toList[725]? = some 0x2c from (LBL_lawr_45 5).trans (by decide +kernel))
theorem dL_law_726 : decode cL_law 726 = .ok (.aload_n 0, 1) := dk_42_ (show cL_law.data.toList[726]? = some 0x2a from (LBL_lawr_45 6).trans (by decide +kernel))
theorem dL_law_727 : decode cL_law 727 = .ok (.iload_n 3, 1) := dk_29_ (show cL_law.data.toList[727]? = some 0x1d from (LBL_lawr_45 7).trans (by decide +kernel))
theorem dL_law_728 : decode cL_law 728 = .ok (.iconst 1, 1) := dk_4_ (show cL_law.data.toList[728]? = some 0x04 from (LBL_lawr_45 8).trans (by decide +kernel))
theorem dL_law_729 : decode cL_law 729 = .ok (.iadd, 1) := dk_96_ (show cL_law.data.toList[729]? = some 0x60 from (LBL_lawr_45 9).trans (by decide +kernel))
theorem dL_law_730 : decode cL_law 730 = .ok (.iaload, 1) := dk_46_ (show cL_law.data.toList[730]? = some 0x2e from (LBL_lawr_45 10).trans (by decide +kernel))
theorem dL_law_731 : decode cL_law 731 = .ok (.invokevirtual 82, 3) := dk_182_ (show cL_law.data.toList[731]? = some 0xb6 from (LBL_lawr_45 11).trans (by decide +kernel)) (show cL_law.data.toList[732]? = some 0x00 from (LBL_lawr_45 12).trans (by decide +kernel)) (show cL_law.data.toList[733]? = some 0x52 from (LBL_lawr_45 13).trans (by decide +kernel)) (by decide)
theorem dL_law_734 : decode cL_law 734 = .ok (.pop, 1) := dk_87_ (show cL_law.data.toList[734]? = some 0x57 from (LBL_lawr_45 14).trans (by decide +kernel))
theorem dL_law_735 : decode cL_law 735 = .ok (.goto 747, 3) := dk_167_ (show cL_law.data.toList[735]? = some 0xa7 from (LBL_lawr_45 15).trans (by decide +kernel)) (show cL_law.data.toList[736]? = some 0x02 from (LBL_lawr_46 0).trans (by decide +kernel)) (show cL_law.data.toList[737]? = some 0xeb from (LBL_lawr_46 1).trans (by decide +kernel)) (by decide)
theorem dL_law_738 : decode cL_law 738 = .ok (.aload_n 1, 1) := dk_43_ (show cL_law.data.toList[738]? = some 0x2b from (LBL_lawr_46 2).trans (by decide +kernel))
theorem dL_law_739 : decode cL_law 739 = .ok (.aload_n 0, 1) := dk_42_ (show cL_law.data.toList[739]? = some 0x2a from (LBL_lawr_46 3).trans (by decide +kernel))
theorem dL_law_740 : decode cL_law 740 = .ok (.iload_n 3, 1) := dk_29_ (show cL_law.data.toList[740]? = some 0x1d from (LBL_lawr_46 4).trans (by decide +kernel))
theorem dL_law_741 : decode cL_law 741 = .ok (.iconst 1, 1) := dk_4_ (show cL_law.data.toList[741]? = some 0x04 from (LBL_lawr_46 5).trans (by decide +kernel))
theorem dL_law_742 : decode cL_law 742 = .ok (.iadd, 1) := dk_96_ (show cL_law.data.toList[742]? = some 0x60 from (LBL_lawr_46 6).trans (by decide +kernel))
theorem dL_law_743 : decode cL_law 743 = .ok (.iaload, 1) := dk_46_ (show cL_law.data.toList[743]? = some 0x2e from (LBL_lawr_46 7).trans (by decide +kernel))
theorem dL_law_744 : decode cL_law 744 = .ok (.aload_n 0, 1) := dk_42_ (show cL_law.data.toList[744]? = some 0x2a from (LBL_lawr_46 8).trans (by decide +kernel))
theorem dL_law_745 : decode cL_law 745 = .ok (.iload_n 3, 1) := dk_29_ (show cL_law.data.toList[745]? = some 0x1d from (LBL_lawr_46 9).trans (by decide +kernel))
theorem dL_law_746 : decode cL_law 746 = .ok (.iconst 2, 1) := dk_5_ (show cL_law.data.toList[746]? = some 0x05 from (LBL_lawr_46 10).trans (by decide +kernel))
theorem dL_law_747 : decode cL_law 747 = .ok (.iadd, 1) := dk_96_ (show cL_law.data.toList[747]? = some 0x60 from (LBL_lawr_46 11).trans (by decide +kernel))
theorem dL_law_748 : decode cL_law 748 = .ok (.iaload, 1) := dk_46_ (show cL_law.data.toList[748]? = some 0x2e from (LBL_lawr_46 12).trans (by decide +kernel))
theorem dL_law_749 : decode cL_law 749 = .ok (.aload_n 0, 1) := dk_42_ (show cL_law.data.toList[749]? = some 0x2a from (LBL_lawr_46 13).trans (by decide +kernel))
theorem dL_law_750 : decode cL_law 750 = .ok (.iload_n 3, 1) := dk_29_ (show cL_law.data.toList[750]? = some 0x1d from (LBL_lawr_46 14).trans (by decide +kernel))
theorem dL_law_751 : decode cL_law 751 = .ok (.iconst 3, 1) := dk_6_ (show cL_law.data.toList[751]? = some 0x06 from (LBL_lawr_46 15).trans (by decide +kernel))
theorem dL_law_752 : decode cL_law 752 = .ok (.iadd, 1) := dk_96_ (show cL_law.data.toList[752]? = some 0x60 from (LBL_lawr_47 0).trans (by decide +kernel))
theorem dL_law_753 : decode cL_law 753 = .ok (.iaload, 1) := dk_46_ (show cL_law.data.toList[753]? = some 0x2e from (LBL_lawr_47 1).trans (by decide +kernel))
theorem dL_law_754 : decode cL_law 754 = .ok (.invokevirtual 83, 3) := dk_182_ (show cL_law.data.toList[754]? = some 0xb6 from (LBL_lawr_47 2).trans (by decide +kernel)) (show cL_law.data.toList[755]? = some 0x00 from (LBL_lawr_47 3).trans (by decide +kernel)) (show cL_law.data.toList[756]? = some 0x53 from (LBL_lawr_47 4).trans (by decide +kernel)) (by decide)
theorem dL_law_757 : decode cL_law 757 = .ok (.pop, 1) := dk_87_ (show cL_law.data.toList[757]? = some 0x57 from (LBL_lawr_47 5).trans (by decide +kernel))
theorem dL_law_758 : decode cL_law 758 = .ok (.aload_n 2, 1) := dk_44_ (show cL_law.data.toList[758]? = some 0x2c from (LBL_lawr_47 6).trans (by decide +kernel))
theorem dL_law_759 : decode cL_law 759 = .ok (.aload_n 0, 1) := dk_42_ (show cL_law.data.toList[759]? = some 0x2a from (LBL_lawr_47 7).trans (by decide +kernel))
theorem dL_law_760 : decode cL_law 760 = .ok (.iload_n 3, 1) := dk_29_ (show cL_law.data.toList[760]? = some 0x1d from (LBL_lawr_47 8).trans (by decide +kernel))
theorem dL_law_761 : decode cL_law 761 = .ok (.iconst 1, 1) := dk_4_ (show cL_law.data.toList[761]? = some 0x04 from (LBL_lawr_47 9).trans (by decide +kernel))
theorem dL_law_762 : decode cL_law 762 = .ok (.iadd, 1) := dk_96_ (show cL_law.data.toList[762]? = some 0x60 from (LBL_lawr_47 10).trans (by decide +kernel))
theorem dL_law_763 : decode cL_law 763 = .ok (.iaload, 1) := dk_46_ (show cL_law.data.toList[763]? = some 0x2e from (LBL_lawr_47 11).trans (by decide +kernel))
theorem dL_law_764 : decode cL_law 764 = .ok (.aload_n 0, 1) := dk_42_ (show cL_law.data.toList[764]? = some 0x2a from (LBL_lawr_47 12).trans (by decide +kernel))
theorem dL_law_765 : decode cL_law 765 = .ok (.iload_n 3, 1) := dk_29_ (show cL_law.data.toList[765]? = some 0x1d from (LBL_lawr_47 13).trans (by decide +kernel))
theorem dL_law_766 : decode cL_law 766 = .ok (.iconst 2, 1) := dk_5_ (show cL_law.data.toList[766]? = some 0x05 from (LBL_lawr_47 14).trans (by decide +kernel))
theorem dL_law_767 : decode cL_law 767 = .ok (.iadd, 1) := dk_96_ (show cL_law.data.toList[767]? = some 0x60 from (LBL_lawr_47 15).trans (by decide +kernel))
theorem dL_law_768 : decode cL_law 768 = .ok (.iaload, 1) := dk_46_ (show cL_law.data.toList[768]? = some 0x2e from (LBL_lawr_48 0).trans (by decide +kernel))
theorem dL_law_769 : decode cL_law 769 = .ok (.aload_n 0, 1) := dk_42_ (show cL_law.data.toList[769]? = some 0x2a from (LBL_lawr_48 1).trans (by decide +kernel))
theorem dL_law_770 : decode cL_law 770 = .ok (.iload_n 3, 1) := dk_29_ (show cL_law.data.toList[770]? = some 0x1d from (LBL_lawr_48 2).trans (by decide +kernel))
theorem dL_law_771 : decode cL_law 771 = .ok (.iconst 3, 1) := dk_6_ (show cL_law.data.toList[771]? = some 0x06 from (LBL_lawr_48 3).trans (by decide +kernel))
theorem dL_law_772 : decode cL_law 772 = .ok (.iadd, 1) := dk_96_ (show cL_law.data.toList[772]? = some 0x60 from (LBL_lawr_48 4).trans (by decide +kernel))
theorem dL_law_773 : decode cL_law 773 = .ok (.iaload, 1) := dk_46_ (show cL_law.data.toList[773]? = some 0x2e from (LBL_lawr_48 5).trans (by decide +kernel))
theorem dL_law_774 : decode cL_law 774 = .ok (.invokevirtual 86, 3) := dk_182_ (show cL_law.data.toList[774]? = some 0xb6 from (LBL_lawr_48 6).trans (by decide +kernel)) (show cL_law.data.toList[775]? = some 0x00 from (LBL_lawr_48 7).trans (by decide +kernel)) (show cL_law.data.toList[776]? = some 0x56 from (LBL_lawr_48 8).trans (by decide +kernel)) (by decide)
theorem dL_law_777 : decode cL_law 777 = .ok (.pop, 1) := dk_87_ (show cL_law.data.toList[777]? = some 0x57 from (LBL_lawr_48 9).trans (by decide +kernel))
theorem dL_law_778 : decode cL_law 778 = .ok (.goto 704, 3) := dk_167_ (show cL_law.data.toList[778]? = some 0xa7 from (LBL_lawr_48 10).trans (by decide +kernel)) (show cL_law.data.toList[779]? = some 0x02 from (LBL_lawr_48 11).trans (by decide +kernel)) (show cL_law.data.toList[780]? = some 0xc0 from (LBL_lawr_48 12).trans (by decide +kernel)) (by decide)
theorem dL_law_781 : decode cL_law 781 = .ok (.aload_n 1, 1) := dk_43_ (show cL_law.data.toList[781]? = some 0x2b from (LBL_lawr_48 13).trans (by decide +kernel))
theorem dL_law_782 : decode cL_law 782 = .ok (.invokevirtual 87, 3) := dk_182_ (show cL_law.data.toList[782]? = some 0xb6 from (LBL_lawr_48 14).trans (by decide +kernel)) (show cL_law.data.toList[783]? = some 0x00 from (LBL_lawr_48 15).trans (by decide +kernel)) (show cL_law.data.toList[784]? = some 0x57 from (LBL_lawr_49 0).trans (by decide +kernel)) (by decide)
theorem dL_law_785 : decode cL_law 785 = .ok (.pop, 1) := dk_87_ (show cL_law.data.toList[785]? = some 0x57 from (LBL_lawr_49 1).trans (by decide +kernel))
theorem dL_law_786 : decode cL_law 786 = .ok (.aload_n 2, 1) := dk_44_ (show cL_law.data.toList[786]? = some 0x2c from (LBL_lawr_49 2).trans (by decide +kernel))
theorem dL_law_787 : decode cL_law 787 = .ok (.invokevirtual 90, 3) := dk_182_ (show cL_law.data.toList[787]? = some 0xb6 from (LBL_lawr_49 3).trans (by decide +kernel)) (show cL_law.data.toList[788]? = some 0x00 from (LBL_lawr_49 4).trans (by decide +kernel)) (show cL_law.data.toList[789]? = some 0x5a from (LBL_lawr_49 5).trans (by decide +kernel)) (by decide)
theorem dL_law_790 : decode cL_law 790 = .ok (.pop, 1) := dk_87_ (show cL_law.data.toList[790]? = some 0x57 from (LBL_lawr_49 6).trans (by decide +kernel))
theorem dL_law_791 : decode cL_law 791 = .ok (.goto 691, 3) := dk_167_ (show cL_law.data.toList[791]? = some 0xa7 from (LBL_lawr_49 7).trans (by decide +kernel)) (show cL_law.data.toList[792]? = some 0x02 from (LBL_lawr_49 8).trans (by decide +kernel)) (show cL_law.data.toList[793]? = some 0xb3 from (LBL_lawr_49 9).trans (by decide +kernel)) (by decide)
theorem dL_law_794 : decode cL_law 794 = .ok (.aload_n 1, 1) := dk_43_ (show cL_law.data.toList[794]? = some 0x2b from (LBL_lawr_49 10).trans (by decide +kernel))
theorem dL_law_795 : decode cL_law 795 = .ok (.aload_n 0, 1) := dk_42_ (show cL_law.data.toList[795]? = some 0x2a from (LBL_lawr_49 11).trans (by decide +kernel))
theorem dL_law_796 : decode cL_law 796 = .ok (.iload_n 3, 1) := dk_29_ (show cL_law.data.toList[796]? = some 0x1d from (LBL_lawr_49 12).trans (by decide +kernel))
theorem dL_law_797 : decode cL_law 797 = .ok (.iconst 1, 1) := dk_4_ (show cL_law.data.toList[797]? = some 0x04 from (LBL_lawr_49 13).trans (by decide +kernel))
theorem dL_law_798 : decode cL_law 798 = .ok (.iadd, 1) := dk_96_ (show cL_law.data.toList[798]? = some 0x60 from (LBL_lawr_49 14).trans (by decide +kernel))
theorem dL_law_799 : decode cL_law 799 = .ok (.iaload, 1) := dk_46_ (show cL_law.data.toList[799]? = some 0x2e from (LBL_lawr_49 15).trans (by decide +kernel))
theorem dL_law_800 : decode cL_law 800 = .ok (.invokevirtual 91, 3) := dk_182_ (show cL_law.data.toList[800]? = some 0xb6 from (LBL_lawr_50 0).trans (by decide +kernel)) (show cL_law.data.toList[801]? = some 0x00 from (LBL_lawr_50 1).trans (by decide +kernel)) (show cL_law.data.toList[802]? = some 0x5b from (LBL_lawr_50 2).trans (by decide +kernel)) (by decide)
theorem dL_law_803 : decode cL_law 803 = .ok (.pop, 1) := dk_87_ (show cL_law.data.toList[803]? = some 0x57 from (LBL_lawr_50 3).trans (by decide +kernel))
theorem dL_law_804 : decode cL_law 804 = .ok (.aload_n 2, 1) := dk_44_ (show cL_law.data.toList[804]? = some 0x2c from (LBL_lawr_50 4).trans (by decide +kernel))
theorem dL_law_805 : decode cL_law 805 = .ok (.aload_n 0, 1) := dk_42_ (show cL_law.data.toList[805]? = some 0x2a from (LBL_lawr_50 5).trans (by decide +kernel))
theorem dL_law_806 : decode cL_law 806 = .ok (.iload_n 3, 1) := dk_29_ (show cL_law.data.toList[806]? = some 0x1d from (LBL_lawr_50 6).trans (by decide +kernel))
theorem dL_law_807 : decode cL_law 807 = .ok (.iconst 1, 1) := dk_4_ (show cL_law.data.toList[807]? = some 0x04 from (LBL_lawr_50 7).trans (by decide +kernel))
theorem dL_law_808 : decode cL_law 808 = .ok (.iadd, 1) := dk_96_ (show cL_law.data.toList[808]? = some 0x60 from (LBL_lawr_50 8).trans (by decide +kernel))
theorem dL_law_809 : decode cL_law 809 = .ok (.iaload, 1) := dk_46_ (show cL_law.data.toList[809]? = some 0x2e from (LBL_lawr_50 9).trans (by decide +kernel))
theorem dL_law_810 : decode cL_law 810 = .ok (.invokevirtual 94, 3) := dk_182_ (show cL_law.data.toList[810]? = some 0xb6 from (LBL_lawr_50 10).trans (by decide +kernel)) (show cL_law.data.toList[811]? = some 0x00 from (LBL_lawr_50 11).trans (by decide +kernel)) (show cL_law.data.toList[812]? = some 0x5e from (LBL_lawr_50 12).trans (by decide +kernel)) (by decide)
theorem dL_law_813 : decode cL_law 813 = .ok (.pop, 1) := dk_87_ (show cL_law.data.toList[813]? = some 0x57 from (LBL_lawr_50 13).trans (by decide +kernel))
theorem dL_law_814 : decode cL_law 814 = .ok (.goto 668, 3) := dk_167_ (show cL_law.data.toList[814]? = some 0xa7 from (LBL_lawr_50 14).trans (by decide +kernel)) (show cL_law.data.toList[815]? = some 0x02 from (LBL_lawr_50 15).trans (by decide +kernel)) (show cL_law.data.toList[816]? = some 0x9c from (LBL_lawr_51 0).trans (by decide +kernel)) (by decide)
theorem dL_law_817 : decode cL_law 817 = .ok (.aload_n 1, 1) := dk_43_ (show cL_law.data.toList[817]? = some 0x2b from (LBL_lawr_51 1).trans (by decide +kernel))
theorem dL_law_818 : decode cL_law 818 = .ok (.aload_n 0, 1) := dk_42_ (show cL_law.data.toList[818]? = some 0x2a from (LBL_lawr_51 2).trans (by decide +kernel))
theorem dL_law_819 : decode cL_law 819 = .ok (.iload_n 3, 1) := dk_29_ (show cL_law.data.toList[819]? = some 0x1d from (LBL_lawr_51 3).trans (by decide +kernel))
theorem dL_law_820 : decode cL_law 820 = .ok (.iconst 1, 1) := dk_4_ (show cL_law.data.toList[820]? = some 0x04 from (LBL_lawr_51 4).trans (by decide +kernel))
theorem dL_law_821 : decode cL_law 821 = .ok (.iadd, 1) := dk_96_ (show cL_law.data.toList[821]? = some 0x60 from (LBL_lawr_51 5).trans (by decide +kernel))
theorem dL_law_822 : decode cL_law 822 = .ok (.iaload, 1) := dk_46_ (show cL_law.data.toList[822]? = some 0x2e from (LBL_lawr_51 6).trans (by decide +kernel))
theorem dL_law_823 : decode cL_law 823 = .ok (.aload_n 0, 1) := dk_42_ (show cL_law.data.toList[823]? = some 0x2a from (LBL_lawr_51 7).trans (by decide +kernel))
theorem dL_law_824 : decode cL_law 824 = .ok (.iload_n 3, 1) := dk_29_ (show cL_law.data.toList[824]? = some 0x1d from (LBL_lawr_51 8).trans (by decide +kernel))
theorem dL_law_825 : decode cL_law 825 = .ok (.iconst 2, 1) := dk_5_ (show cL_law.data.toList[825]? = some 0x05 from (LBL_lawr_51 9).trans (by decide +kernel))
theorem dL_law_826 : decode cL_law 826 = .ok (.iadd, 1) := dk_96_ (show cL_law.data.toList[826]? = some 0x60 from (LBL_lawr_51 10).trans (by decide +kernel))
theorem dL_law_827 : decode cL_law 827 = .ok (.iaload, 1) := dk_46_ (show cL_law.data.toList[827]? = some 0x2e from (LBL_lawr_51 11).trans (by decide +kernel))
theorem dL_law_828 : decode cL_law 828 = .ok (.invokevirtual 95, 3) := dk_182_ (show cL_law.data.toList[828]? = some 0xb6 from (LBL_lawr_51 12).trans (by decide +kernel)) (show cL_law.data.toList[829]? = some 0x00 from (LBL_lawr_51 13).trans (by decide +kernel)) (show cL_law.data.toList[830]? = some 0x5f from (LBL_lawr_51 14).trans (by decide +kernel)) (by decide)
theorem dL_law_831 : decode cL_law 831 = .ok (.pop, 1) := dk_87_ (show cL_law.data.toList[831]? = some 0x57 from (LBL_lawr_51 15).trans (by decide +kernel))
theorem dL_law_832 : decode cL_law 832 = .ok (.aload_n 2, 1) := dk_44_ (show cL_law.data.toList[832]? = some 0x2c from (LBL_lawr_52 0).trans (by decide +kernel))
theorem dL_law_833 : decode cL_law 833 = .ok (.aload_n 0, 1) := dk_42_ (show cL_law.data.toList[833]? = some 0x2a from (LBL_lawr_52 1).trans (by decide +kernel))
theorem dL_law_834 : decode cL_law 834 = .ok (.iload_n 3, 1) := dk_29_ (show cL_law.data.toList[834]? = some 0x1d from (LBL_lawr_52 2).trans (by decide +kernel))
theorem dL_law_835 : decode cL_law 835 = .ok (.iconst 1, 1) := dk_4_ (show cL_law.data.toList[835]? = some 0x04 from (LBL_lawr_52 3).trans (by decide +kernel))
theorem dL_law_836 : decode cL_law 836 = .ok (.iadd, 1) := dk_96_ (show cL_law.data.toList[836]? = some 0x60 from (LBL_lawr_52 4).trans (by decide +kernel))
theorem dL_law_837 : decode cL_law 837 = .ok (.iaload, 1) := dk_46_ (show cL_law.data.toList[837]? = some 0x2e from (LBL_lawr_52 5).trans (by decide +kernel))
theorem dL_law_838 : decode cL_law 838 = .ok (.aload_n 0, 1) := dk_42_ (show cL_law.data.toList[838]? = some 0x2a from (LBL_lawr_52 6).trans (by decide +kernel))
theorem dL_law_839 : decode cL_law 839 = .ok (.iload_n 3, 1) := dk_29_ (show cL_law.data.toList[839]? = some 0x1d from (LBL_lawr_52 7).trans (by decide +kernel))
theorem dL_law_840 : decode cL_law 840 = .ok (.iconst 2, 1) := dk_5_ (show cL_law.data.toList[840]? = some 0x05 from (LBL_lawr_52 8).trans (by decide +kernel))
theorem dL_law_841 : decode cL_law 841 = .ok (.iadd, 1) := dk_96_ (show cL_law.data.toList[841]? = some 0x60 from (LBL_lawr_52 9).trans (by decide +kernel))
theorem dL_law_842 : decode cL_law 842 = .ok (.iaload, 1) := dk_46_ (show cL_law.data.toList[842]? = some 0x2e from (LBL_lawr_52 10).trans (by decide +kernel))
theorem dL_law_843 : decode cL_law 843 = .ok (.invokevirtual 98, 3) := dk_182_ (show cL_law.data.toList[843]? = some 0xb6 from (LBL_lawr_52 11).trans (by decide +kernel)) (show cL_law.data.toList[844]? = some 0x00 from (LBL_lawr_52 12).trans (by decide +kernel)) (show cL_law.data.toList[845]? = some 0x62 from (LBL_lawr_52 13).trans (by decide +kernel)) (by decide)
theorem dL_law_846 : decode cL_law 846 = .ok (.pop, 1) := dk_87_ (show cL_law.data.toList[846]? = some 0x57 from (LBL_lawr_52 14).trans (by decide +kernel))
theorem dL_law_847 : decode cL_law 847 = .ok (.goto 635, 3) := dk_167_ (show cL_law.data.toList[847]? = some 0xa7 from (LBL_lawr_52 15).trans (by decide +kernel)) (show cL_law.data.toList[848]? = some 0x02 from (LBL_lawr_53 0).trans (by decide +kernel)) (show cL_law.data.toList[849]? = some 0x7b from (LBL_lawr_53 1).trans (by decide +kernel)) (by decide)
theorem dL_law_850 : decode cL_law 850 = .ok (.aload_n 1, 1) := dk_43_ (show cL_law.data.toList[850]? = some 0x2b from (LBL_lawr_53 2).trans (by decide +kernel))
theorem dL_law_851 : decode cL_law 851 = .ok (.invokevirtual 99, 3) := dk_182_ (show cL_law.data.toList[851]? = some 0xb6 from (LBL_lawr_53 3).trans (by decide +kernel)) (show cL_law.data.toList[852]? = some 0x00 from (LBL_lawr_53 4).trans (by decide +kernel)) (show cL_law.data.toList[853]? = some 0x63 from (LBL_lawr_53 5).trans (by decide +kernel)) (by decide)
theorem dL_law_854 : decode cL_law 854 = .ok (.pop, 1) := dk_87_ (show cL_law.data.toList[854]? = some 0x57 from (LBL_lawr_53 6).trans (by decide +kernel))
theorem dL_law_855 : decode cL_law 855 = .ok (.aload_n 2, 1) := dk_44_ (show cL_law.data.toList[855]? = some 0x2c from (LBL_lawr_53 7).trans (by decide +kernel))
theorem dL_law_856 : decode cL_law 856 = .ok (.invokevirtual 102, 3) := dk_182_ (show cL_law.data.toList[856]? = some 0xb6 from (LBL_lawr_53 8).trans (by decide +kernel)) (show cL_law.data.toList[857]? = some 0x00 from (LBL_lawr_53 9).trans (by decide +kernel)) (show cL_law.data.toList[858]? = some 0x66 from (LBL_lawr_53 10).trans (by decide +kernel)) (by decide)
theorem dL_law_859 : decode cL_law 859 = .ok (.pop, 1) := dk_87_ (show cL_law.data.toList[859]? = some 0x57 from (LBL_lawr_53 11).trans (by decide +kernel))
theorem dL_law_860 : decode cL_law 860 = .ok (.goto 622, 3) := dk_167_ (show cL_law.data.toList[860]? = some 0xa7 from (LBL_lawr_53 12).trans (by decide +kernel)) (show cL_law.data.toList[861]? = some 0x02 from (LBL_lawr_53 13).trans (by decide +kernel)) (show cL_law.data.toList[862]? = some 0x6e from (LBL_lawr_53 14).trans (by decide +kernel)) (by decide)
theorem dL_law_863 : decode cL_law 863 = .ok (.aload_n 1, 1) := dk_43_ (show cL_law.data.toList[863]? = some 0x2b from (LBL_lawr_53 15).trans (by decide +kernel))
theorem dL_law_864 : decode cL_law 864 = .ok (.aload_n 0, 1) := dk_42_ (show cL_law.data.toList[864]? = some 0x2a from (LBL_lawr_54 0).trans (by decide +kernel))
theorem dL_law_865 : decode cL_law 865 = .ok (.iload_n 3, 1) := dk_29_ (show cL_law.data.toList[865]? = some 0x1d from (LBL_lawr_54 1).trans (by decide +kernel))
theorem dL_law_866 : decode cL_law 866 = .ok (.iconst 1, 1) := dk_4_ (show cL_law.data.toList[866]? = some 0x04 from (LBL_lawr_54 2).trans (by decide +kernel))
theorem dL_law_867 : decode cL_law 867 = .ok (.iadd, 1) := dk_96_ (show cL_law.data.toList[867]? = some 0x60 from (LBL_lawr_54 3).trans (by decide +kernel))
theorem dL_law_868 : decode cL_law 868 = .ok (.iaload, 1) := dk_46_ (show cL_law.data.toList[868]? = some 0x2e from (LBL_lawr_54 4).trans (by decide +kernel))
theorem dL_law_869 : decode cL_law 869 = .ok (.aload_n 0, 1) := dk_42_ (show cL_law.data.toList[869]? = some 0x2a from (LBL_lawr_54 5).trans (by decide +kernel))
theorem dL_law_870 : decode cL_law 870 = .ok (.iload_n 3, 1) := dk_29_ (show cL_law.data.toList[870]? = some 0x1d from (LBL_lawr_54 6).trans (by decide +kernel))
theorem dL_law_871 : decode cL_law 871 = .ok (.iconst 2, 1) := dk_5_ (show cL_law.data.toList[871]? = some 0x05 from (LBL_lawr_54 7).trans (by decide +kernel))
theorem dL_law_872 : decode cL_law 872 = .ok (.iadd, 1) := dk_96_ (show cL_law.data.toList[872]? = some 0x60 from (LBL_lawr_54 8).trans (by decide +kernel))
theorem dL_law_873 : decode cL_law 873 = .ok (.iaload, 1) := dk_46_ (show cL_law.data.toList[873]? = some 0x2e from (LBL_lawr_54 9).trans (by decide +kernel))
theorem dL_law_874 : decode cL_law 874 = .ok (.aload_n 0, 1) := dk_42_ (show cL_law.data.toList[874]? = some 0x2a from (LBL_lawr_54 10).trans (by decide +kernel))
theorem dL_law_875 : decode cL_law 875 = .ok (.iload_n 3, 1) := dk_29_ (show cL_law.data.toList[875]? = some 0x1d from (LBL_lawr_54 11).trans (by decide +kernel))
theorem dL_law_876 : decode cL_law 876 = .ok (.iconst 3, 1) := dk_6_ (show cL_law.data.toList[876]? = some 0x06 from (LBL_lawr_54 12).trans (by decide +kernel))
theorem dL_law_877 : decode cL_law 877 = .ok (.iadd, 1) := dk_96_ (show cL_law.data.toList[877]? = some 0x60 from (LBL_lawr_54 13).trans (by decide +kernel))
theorem dL_law_878 : decode cL_law 878 = .ok (.iaload, 1) := dk_46_ (show cL_law.data.toList[878]? = some 0x2e from (LBL_lawr_54 14).trans (by decide +kernel))
theorem dL_law_879 : decode cL_law 879 = .ok (.aload_n 0, 1) := dk_42_ (show cL_law.data.toList[879]? = some 0x2a from (LBL_lawr_54 15).trans (by decide +kernel))
theorem dL_law_880 : decode cL_law 880 = .ok (.iload_n 3, 1) := dk_29_ (show cL_law.data.toList[880]? = some 0x1d from (LBL_lawr_55 0).trans (by decide +kernel))
theorem dL_law_881 : decode cL_law 881 = .ok (.iconst 4, 1) := dk_7_ (show cL_law.data.toList[881]? = some 0x07 from (LBL_lawr_55 1).trans (by decide +kernel))
theorem dL_law_882 : decode cL_law 882 = .ok (.iadd, 1) := dk_96_ (show cL_law.data.toList[882]? = some 0x60 from (LBL_lawr_55 2).trans (by decide +kernel))
theorem dL_law_883 : decode cL_law 883 = .ok (.iaload, 1) := dk_46_ (show cL_law.data.toList[883]? = some 0x2e from (LBL_lawr_55 3).trans (by decide +kernel))
theorem dL_law_884 : decode cL_law 884 = .ok (.invokevirtual 103, 3) := dk_182_ (show cL_law.data.toList[884]? = some 0xb6 from (LBL_lawr_55 4).trans (by decide +kernel)) (show cL_law.data.toList[885]? = some 0x00 from (LBL_lawr_55 5).trans (by decide +kernel)) (show cL_law.data.toList[886]? = some 0x67 from (LBL_lawr_55 6).trans (by decide +kernel)) (by decide)
theorem dL_law_887 : decode cL_law 887 = .ok (.pop, 1) := dk_87_ (show cL_law.data.toList[887]? = some 0x57 from (LBL_lawr_55 7).trans (by decide +kernel))
theorem dL_law_888 : decode cL_law 888 = .ok (.aload_n 2, 1) := dk_44_ (show cL_law.data.toList[888]? = some 0x2c from (LBL_lawr_55 8).trans (by decide +kernel))
theorem dL_law_889 : decode cL_law 889 = .ok (.aload_n 0, 1) := dk_42_ (show cL_law.data.toList[889]? = some 0x2a from (LBL_lawr_55 9).trans (by decide +kernel))
theorem dL_law_890 : decode cL_law 890 = .ok (.iload_n 3, 1) := dk_29_ (show cL_law.data.toList[890]? = some 0x1d from (LBL_lawr_55 10).trans (by decide +kernel))
theorem dL_law_891 : decode cL_law 891 = .ok (.iconst 1, 1) := dk_4_ (show cL_law.data.toList[891]? = some 0x04 from (LBL_lawr_55 11).trans (by decide +kernel))
theorem dL_law_892 : decode cL_law 892 = .ok (.iadd, 1) := dk_96_ (show cL_law.data.toList[892]? = some 0x60 from (LBL_lawr_55 12).trans (by decide +kernel))
theorem dL_law_893 : decode cL_law 893 = .ok (.iaload, 1) := dk_46_ (show cL_law.data.toList[893]? = some 0x2e from (LBL_lawr_55 13).trans (by decide +kernel))
theorem dL_law_894 : decode cL_law 894 = .ok (.aload_n 0, 1) := dk_42_ (show cL_law.data.toList[894]? = some 0x2a from (LBL_lawr_55 14).trans (by decide +kernel))
theorem dL_law_895 : decode cL_law 895 = .ok (.iload_n 3, 1) := dk_29_ (show cL_law.data.toList[895]? = some 0x1d from (LBL_lawr_55 15).trans (by decide +kernel))
theorem dL_law_896 : decode cL_law 896 = .ok (.iconst 2, 1) := dk_5_ (show cL_law.data.toList[896]? = some 0x05 from (LBL_lawr_56 0).trans (by decide +kernel))
theorem dL_law_897 : decode cL_law 897 = .ok (.iadd, 1) := dk_96_ (show cL_law.data.toList[897]? = some 0x60 from (LBL_lawr_56 1).trans (by decide +kernel))
theorem dL_law_898 : decode cL_law 898 = .ok (.iaload, 1) := dk_46_ (show cL_law.data.toList[898]? = some 0x2e from (LBL_lawr_56 2).trans (by decide +kernel))
theorem dL_law_899 : decode cL_law 899 = .ok (.aload_n 0, 1) := dk_42_ (show cL_law.data.toList[899]? = some 0x2a from (LBL_lawr_56 3).trans (by decide +kernel))
theorem dL_law_900 : decode cL_law 900 = .ok (.iload_n 3, 1) := dk_29_ (show cL_law.data.toList[900]? = some 0x1d from (LBL_lawr_56 4).trans (by decide +kernel))
theorem dL_law_901 : decode cL_law 901 = .ok (.iconst 3, 1) := dk_6_ (show cL_law.data.toList[901]? = some 0x06 from (LBL_lawr_56 5).trans (by decide +kernel))
theorem dL_law_902 : decode cL_law 902 = .ok (.iadd, 1) := dk_96_ (show cL_law.data.toList[902]? = some 0x60 from (LBL_lawr_56 6).trans (by decide +kernel))
theorem dL_law_903 : decode cL_law 903 = .ok (.iaload, 1) := dk_46_ (show cL_law.data.toList[903]? = some 0x2e from (LBL_lawr_56 7).trans (by decide +kernel))
theorem dL_law_904 : decode cL_law 904 = .ok (.aload_n 0, 1) := dk_42_ (show cL_law.data.toList[904]? = some 0x2a from (LBL_lawr_56 8).trans (by decide +kernel))
theorem dL_law_905 : decode cL_law 905 = .ok (.iload_n 3, 1) := dk_29_ (show cL_law.data.toList[905]? = some 0x1d from (LBL_lawr_56 9).trans (by decide +kernel))
theorem dL_law_906 : decode cL_law 906 = .ok (.iconst 4, 1) := dk_7_ (show cL_law.data.toList[906]? = some 0x07 from (LBL_lawr_56 10).trans (by decide +kernel))
theorem dL_law_907 : decode cL_law 907 = .ok (.iadd, 1) := dk_96_ (show cL_law.data.toList[907]? = some 0x60 from (LBL_lawr_56 11).trans (by decide +kernel))
theorem dL_law_908 : decode cL_law 908 = .ok (.iaload, 1) := dk_46_ (show cL_law.data.toList[908]? = some 0x2e from (LBL_lawr_56 12).trans (by decide +kernel))
theorem dL_law_909 : decode cL_law 909 = .ok (.invokevirtual 106, 3) := dk_182_ (show cL_law.data.toList[909]? = some 0xb6 from (LBL_lawr_56 13).trans (by decide +kernel)) (show cL_law.data.toList[910]? = some 0x00 from (LBL_lawr_56 14).trans (by decide +kernel)) (show cL_law.data.toList[911]? = some 0x6a from (LBL_lawr_56 15).trans (by decide +kernel)) (by decide)
theorem dL_law_912 : decode cL_law 912 = .ok (.pop, 1) := dk_87_ (show cL_law.data.toList[912]? = some 0x57 from (LBL_lawr_57 0).trans (by decide +kernel))
theorem dL_law_913 : decode cL_law 913 = .ok (.goto 569, 3) := dk_167_ (show cL_law.data.toList[913]? = some 0xa7 from (LBL_lawr_57 1).trans (by decide +kernel)) (show cL_law.data.toList[914]? = some 0x02 from (LBL_lawr_57 2).trans (by decide +kernel)) (show cL_law.data.toList[915]? = some 0x39 from (LBL_lawr_57 3).trans (by decide +kernel)) (by decide)
theorem dL_law_916 : decode cL_law 916 = .ok (.aload_n 1, 1) := dk_43_ (show cL_law.data.toList[916]? = some 0x2b from (LBL_lawr_57 4).trans (by decide +kernel))
theorem dL_law_917 : decode cL_law 917 = .ok (.aload_n 0, 1) := dk_42_ (show cL_law.data.toList[917]? = some 0x2a from (LBL_lawr_57 5).trans (by decide +kernel))
theorem dL_law_918 : decode cL_law 918 = .ok (.iload_n 3, 1) := dk_29_ (show cL_law.data.toList[918]? = some 0x1d from (LBL_lawr_57 6).trans (by decide +kernel))
theorem dL_law_919 : decode cL_law 919 = .ok (.iconst 1, 1) := dk_4_ (show cL_law.data.toList[919]? = some 0x04 from (LBL_lawr_57 7).trans (by decide +kernel))
theorem dL_law_920 : decode cL_law 920 = .ok (.iadd, 1) := dk_96_ (show cL_law.data.toList[920]? = some 0x60 from (LBL_lawr_57 8).trans (by decide +kernel))
theorem dL_law_921 : decode cL_law 921 = .ok (.iaload, 1) := dk_46_ (show cL_law.data.toList[921]? = some 0x2e from (LBL_lawr_57 9).trans (by decide +kernel))
theorem dL_law_922 : decode cL_law 922 = .ok (.aload_n 0, 1) := dk_42_ (show cL_law.data.toList[922]? = some 0x2a from (LBL_lawr_57 10).trans (by decide +kernel))
theorem dL_law_923 : decode cL_law 923 = .ok (.iload_n 3, 1) := dk_29_ (show cL_law.data.toList[923]? = some 0x1d from (LBL_lawr_57 11).trans (by decide +kernel))
theorem dL_law_924 : decode cL_law 924 = .ok (.iconst 2, 1) := dk_5_ (show cL_law.data.toList[924]? = some 0x05 from (LBL_lawr_57 12).trans (by decide +kernel))
theorem dL_law_925 : decode cL_law 925 = .ok (.iadd, 1) := dk_96_ (show cL_law.data.toList[925]? = some 0x60 from (LBL_lawr_57 13).trans (by decide +kernel))
theorem dL_law_926 : decode cL_law 926 = .ok (.iaload, 1) := dk_46_ (show cL_law.data.toList[926]? = some 0x2e from (LBL_lawr_57 14).trans (by decide +kernel))
theorem dL_law_927 : decode cL_law 927 = .ok (.invokevirtual 107, 3) := dk_182_ (show cL_law.data.toList[927]? = some 0xb6 from (LBL_lawr_57 15).trans (by decide +kernel)) (show cL_law.data.toList[928]? = some 0x00 from (LBL_lawr_58 0).trans (by decide +kernel)) (show cL_law.data.toList[929]? = some 0x6b from (LBL_lawr_58 1).trans (by decide +kernel)) (by decide)
theorem dL_law_930 : decode cL_law 930 = .ok (.pop, 1) := dk_87_ (show cL_law.data.toList[930]? = some 0x57 from (LBL_lawr_58 2).trans (by decide +kernel))
theorem dL_law_931 : decode cL_law 931 = .ok (.aload_n 2, 1) := dk_44_ (show cL_law.data.toList[931]? = some 0x2c from (LBL_lawr_58 3).trans (by decide +kernel))
theorem dL_law_932 : decode cL_law 932 = .ok (.aload_n 0, 1) := dk_42_ (show cL_law.data.toList[932]? = some 0x2a from (LBL_lawr_58 4).trans (by decide +kernel))
theorem dL_law_933 : decode cL_law 933 = .ok (.iload_n 3, 1) := dk_29_ (show cL_law.data.toList[933]? = some 0x1d from (LBL_lawr_58 5).trans (by decide +kernel))
theorem dL_law_934 : decode cL_law 934 = .ok (.iconst 1, 1) := dk_4_ (show cL_law.data.toList[934]? = some 0x04 from (LBL_lawr_58 6).trans (by decide +kernel))
theorem dL_law_935 : decode cL_law 935 = .ok (.iadd, 1) := dk_96_ (show cL_law.data.toList[935]? = some 0x60 from (LBL_lawr_58 7).trans (by decide +kernel))
theorem dL_law_936 : decode cL_law 936 = .ok (.iaload, 1) := dk_46_ (show cL_law.data.toList[936]? = some 0x2e from (LBL_lawr_58 8).trans (by decide +kernel))
theorem dL_law_937 : decode cL_law 937 = .ok (.aload_n 0, 1) := dk_42_ (show cL_law.data.toList[937]? = some 0x2a from (LBL_lawr_58 9).trans (by decide +kernel))
theorem dL_law_938 : decode cL_law 938 = .ok (.iload_n 3, 1) := dk_29_ (show cL_law.data.toList[938]? = some 0x1d from (LBL_lawr_58 10).trans (by decide +kernel))
theorem dL_law_939 : decode cL_law 939 = .ok (.iconst 2, 1) := dk_5_ (show cL_law.data.toList[939]? = some 0x05 from (LBL_lawr_58 11).trans (by decide +kernel))
theorem dL_law_940 : decode cL_law 940 = .ok (.iadd, 1) := dk_96_ (show cL_law.data.toList[940]? = some 0x60 from (LBL_lawr_58 12).trans (by decide +kernel))
theorem dL_law_941 : decode cL_law 941 = .ok (.iaload, 1) := dk_46_ (show cL_law.data.toList[941]? = some 0x2e from (LBL_lawr_58 13).trans (by decide +kernel))
theorem dL_law_942 : decode cL_law 942 = .ok (.invokevirtual 110, 3) := dk_182_ (show cL_law.data.toList[942]? = some 0xb6 from (LBL_lawr_58 14).trans (by decide +kernel)) (show cL_law.data.toList[943]? = some 0x00 from (LBL_lawr_58 15).trans (by decide +kernel)) (show cL_law.data.toList[944]? = some 0x6e from (LBL_lawr_59 0).trans (by decide +kernel)) (by decide)
theorem dL_law_945 : decode cL_law 945 = .ok (.pop, 1) := dk_87_ (show cL_law.data.toList[945]? = some 0x57 from (LBL_lawr_59 1).trans (by decide +kernel))
theorem dL_law_946 : decode cL_law 946 = .ok (.goto 536, 3) := dk_167_ (show cL_law.data.toList[946]? = some 0xa7 from (LBL_lawr_59 2).trans (by decide +kernel)) (show cL_law.data.toList[947]? = some 0x02 from (LBL_lawr_59 3).trans (by decide +kernel)) (show cL_law.data.toList[948]? = some 0x18 from (LBL_lawr_59 4).trans (by decide +kernel)) (by decide)
theorem dL_law_949 : decode cL_law 949 = .ok (.aload_n 1, 1) := dk_43_ (show cL_law.data.toList[949]? = some 0x2b from (LBL_lawr_59 5).trans (by decide +kernel))
theorem dL_law_950 : decode cL_law 950 = .ok (.invokevirtual 111, 3) := dk_182_ (show cL_law.data.toList[950]? = some 0xb6 from (LBL_lawr_59 6).trans (by decide +kernel)) (show cL_law.data.toList[951]? = some 0x00 from (LBL_lawr_59 7).trans (by decide +kernel)) (show cL_law.data.toList[952]? = some 0x6f from (LBL_lawr_59 8).trans (by decide +kernel)) (by decide)
theorem dL_law_953 : decode cL_law 953 = .ok (.pop, 1) := dk_87_ (show cL_law.data.toList[953]? = some 0x57 from (LBL_lawr_59 9).trans (by decide +kernel))
theorem dL_law_954 : decode cL_law 954 = .ok (.aload_n 2, 1) := dk_44_ (show cL_law.data.toList[954]? = some 0x2c from (LBL_lawr_59 10).trans (by decide +kernel))
theorem dL_law_955 : decode cL_law 955 = .ok (.invokevirtual 114, 3) := dk_182_ (show cL_law.data.toList[955]? = some 0xb6 from (LBL_lawr_59 11).trans (by decide +kernel)) (show cL_law.data.toList[956]? = some 0x00 from (LBL_lawr_59 12).trans (by decide +kernel)) (show cL_law.data.toList[957]? = some 0x72 from (LBL_lawr_59 13).trans (by decide +kernel)) (by decide)
theorem dL_law_958 : decode cL_law 958 = .ok (.pop, 1) := dk_87_ (show cL_law.data.toList[958]? = some 0x57 from (LBL_lawr_59 14).trans (by decide +kernel))
theorem dL_law_959 : decode cL_law 959 = .ok (.goto 523, 3) := dk_167_ (show cL_law.data.toList[959]? = some 0xa7 from (LBL_lawr_59 15).trans (by decide +kernel)) (show cL_law.data.toList[960]? = some 0x02 from (LBL_lawr_60 0).trans (by decide +kernel)) (show cL_law.data.toList[961]? = some 0x0b from (LBL_lawr_60 1).trans (by decide +kernel)) (by decide)
theorem dL_law_962 : decode cL_law 962 = .ok (.aload_n 1, 1) := dk_43_ (show cL_law.data.toList[962]? = some 0x2b from (LBL_lawr_60 2).trans (by decide +kernel))
theorem dL_law_963 : decode cL_law 963 = .ok (.invokevirtual 115, 3) := dk_182_ (show cL_law.data.toList[963]? = some 0xb6 from (LBL_lawr_60 3).trans (by decide +kernel)) (show cL_law.data.toList[964]? = some 0x00 from (LBL_lawr_60 4).trans (by decide +kernel)) (show cL_law.data.toList[965]? = some 0x73 from (LBL_lawr_60 5).trans (by decide +kernel)) (by decide)
theorem dL_law_966 : decode cL_law 966 = .ok (.pop, 1) := dk_87_ (show cL_law.data.toList[966]? = some 0x57 from (LBL_lawr_60 6).trans (by decide +kernel))
theorem dL_law_967 : decode cL_law 967 = .ok (.aload_n 2, 1) := dk_44_ (show cL_law.data.toList[967]? = some 0x2c from (LBL_lawr_60 7).trans (by decide +kernel))
theorem dL_law_968 : decode cL_law 968 = .ok (.invokevirtual 118, 3) := dk_182_ (show cL_law.data.toList[968]? = some 0xb6 from (LBL_lawr_60 8).trans (by decide +kernel)) (show cL_law.data.toList[969]? = some 0x00 from (LBL_lawr_60 9).trans (by decide +kernel)) (show cL_law.data.toList[970]? = some 0x76 from (LBL_lawr_60 10).trans (by decide +kernel)) (by decide)
theorem dL_law_971 : decode cL_law 971 = .ok (.pop, 1) := dk_87_ (show cL_law.data.toList[971]? = some 0x57 from (LBL_lawr_60 11).trans (by decide +kernel))
theorem dL_law_972 : decode cL_law 972 = .ok (.goto 510, 3) := dk_167_ (show cL_law.data.toList[972]? = some 0xa7 from (LBL_lawr_60 12).trans (by decide +kernel)) (show cL_law.data.toList[973]? = some 0x01 from (LBL_lawr_60 13).trans (by decide +kernel)) (show cL_law.data.toList[974]? = some 0xfe from (LBL_lawr_60 14).trans (by decide +kernel)) (by decide)
theorem dL_law_975 : decode cL_law 975 = .ok (.aload_n 1, 1) := dk_43_ (show cL_law.data.toList[975]? = some 0x2b from (LBL_lawr_60 15).trans (by decide +kernel))
theorem dL_law_976 : decode cL_law 976 = .ok (.aload_n 0, 1) := dk_42_ (show cL_law.data.toList[976]? = some 0x2a from (LBL_lawr_61 0).trans (by decide +kernel))
theorem dL_law_977 : decode cL_law 977 = .ok (.iload_n 3, 1) := dk_29_ (show cL_law.data.toList[977]? = some 0x1d from (LBL_lawr_61 1).trans (by decide +kernel))
theorem dL_law_978 : decode cL_law 978 = .ok (.iconst 1, 1) := dk_4_ (show cL_law.data.toList[978]? = some 0x04 from (LBL_lawr_61 2).trans (by decide +kernel))
theorem dL_law_979 : decode cL_law 979 = .ok (.iadd, 1) := dk_96_ (show cL_law.data.toList[979]? = some 0x60 from (LBL_lawr_61 3).trans (by decide +kernel))
theorem dL_law_980 : decode cL_law 980 = .ok (.iaload, 1) := dk_46_ (show cL_law.data.toList[980]? = some 0x2e from (LBL_lawr_61 4).trans (by decide +kernel))
theorem dL_law_981 : decode cL_law 981 = .ok (.invokevirtual 119, 3) := dk_182_ (show cL_law.data.toList[981]? = some 0xb6 from (LBL_lawr_61 5).trans (by decide +kernel)) (show cL_law.data.toList[982]? = some 0x00 from (LBL_lawr_61 6).trans (by decide +kernel)) (show cL_law.data.toList[983]? = some 0x77 from (LBL_lawr_61 7).trans (by decide +kernel)) (by decide)
theorem dL_law_984 : decode cL_law 984 = .ok (.pop, 1) := dk_87_ (show cL_law.data.toList[984]? = some 0x57 from (LBL_lawr_61 8).trans (by decide +kernel))
theorem dL_law_985 : decode cL_law 985 = .ok (.aload_n 2, 1) := dk_44_ (show cL_law.data.toList[985]? = some 0x2c from (LBL_lawr_61 9).trans (by decide +kernel))
theorem dL_law_986 : decode cL_law 986 = .ok (.aload_n 0, 1) := dk_42_ (show cL_law.data.toList[986]? = some 0x2a from (LBL_lawr_61 10).trans (by decide +kernel))
theorem dL_law_987 : decode cL_law 987 = .ok (.iload_n 3, 1) := dk_29_ (show cL_law.data.toList[987]? = some 0x1d from (LBL_lawr_61 11).trans (by decide +kernel))
theorem dL_law_988 : decode cL_law 988 = .ok (.iconst 1, 1) := dk_4_ (show cL_law.data.toList[988]? = some 0x04 from (LBL_lawr_61 12).trans (by decide +kernel))
theorem dL_law_989 : decode cL_law 989 = .ok (.iadd, 1) := dk_96_ (show cL_law.data.toList[989]? = some 0x60 from (LBL_lawr_61 13).trans (by decide +kernel))
theorem dL_law_990 : decode cL_law 990 = .ok (.iaload, 1) := dk_46_ (show cL_law.data.toList[990]? = some 0x2e from (LBL_lawr_61 14).trans (by decide +kernel))
theorem dL_law_991 : decode cL_law 991 = .ok (.invokevirtual 122, 3) := dk_182_ (show cL_law.data.toList[991]? = some 0xb6 from (LBL_lawr_61 15).trans (by decide +kernel)) (show cL_law.data.toList[992]? = some 0x00 from (LBL_lawr_62 0).trans (by decide +kernel)) (show cL_law.data.toList[993]? = some 0x7a from (LBL_lawr_62 1).trans (by decide +kernel)) (by decide)
theorem dL_law_994 : decode cL_law 994 = .ok (.pop, 1) := dk_87_ (show cL_law.data.toList[994]? = some 0x57 from (LBL_lawr_62 2).trans (by decide +kernel))
theorem dL_law_995 : decode cL_law 995 = .ok (.goto 487, 3) := dk_167_ (show cL_law.data.toList[995]? = some 0xa7 from (LBL_lawr_62 3).trans (by decide +kernel)) (show cL_law.data.toList[996]? = some 0x01 from (LBL_lawr_62 4).trans (by decide +kernel)) (show cL_law.data.toList[997]? = some 0xe7 from (LBL_lawr_62 5).trans (by decide +kernel)) (by decide)
theorem dL_law_998 : decode cL_law 998 = .ok (.aload_n 1, 1) := dk_43_ (show cL_law.data.toList[998]? = some 0x2b from (LBL_lawr_62 6).trans (by decide +kernel))
theorem dL_law_999 : decode cL_law 999 = .ok (.invokevirtual 123, 3) := dk_182_ (show cL_law.data.toList[999]? = some 0xb6 from (LBL_lawr_62 7).trans (by decide +kernel)) (show cL_law.data.toList[1000]? = some 0x00 from (LBL_lawr_62 8).trans (by decide +kernel)) (show cL_law.data.toList[1001]? = some 0x7b from (LBL_lawr_62 9).trans (by decide +kernel)) (by decide)
theorem dL_law_1002 : decode cL_law 1002 = .ok (.pop, 1) := dk_87_ (show cL_law.data.toList[1002]? = some 0x57 from (LBL_lawr_62 10).trans (by decide +kernel))
theorem dL_law_1003 : decode cL_law 1003 = .ok (.aload_n 2, 1) := dk_44_ (show cL_law.data.toList[1003]? = some 0x2c from (LBL_lawr_62 11).trans (by decide +kernel))
theorem dL_law_1004 : decode cL_law 1004 = .ok (.invokevirtual 126, 3) := dk_182_ (show cL_law.data.toList[1004]? = some 0xb6 from (LBL_lawr_62 12).trans (by decide +kernel)) (show cL_law.data.toList[1005]? = some 0x00 from (LBL_lawr_62 13).trans (by decide +kernel)) (show cL_law.data.toList[1006]? = some 0x7e from (LBL_lawr_62 14).trans (by decide +kernel)) (by decide)
theorem dL_law_1007 : decode cL_law 1007 = .ok (.pop, 1) := dk_87_ (show cL_law.data.toList[1007]? = some 0x57 from (LBL_lawr_62 15).trans (by decide +kernel))
theorem dL_law_1008 : decode cL_law 1008 = .ok (.goto 474, 3) := dk_167_ (show cL_law.data.toList[1008]? = some 0xa7 from (LBL_lawr_63 0).trans (by decide +kernel)) (show cL_law.data.toList[1009]? = some 0x01 from (LBL_lawr_63 1).trans (by decide +kernel)) (show cL_law.data.toList[1010]? = some 0xda from (LBL_lawr_63 2).trans (by decide +kernel)) (by decide)
theorem dL_law_1011 : decode cL_law 1011 = .ok (.aload_n 1, 1) := dk_43_ (show cL_law.data.toList[1011]? = some 0x2b from (LBL_lawr_63 3).trans (by decide +kernel))
theorem dL_law_1012 : decode cL_law 1012 = .ok (.aload_n 0, 1) := dk_42_ (show cL_law.data.toList[1012]? = some 0x2a from (LBL_lawr_63 4).trans (by decide +kernel))
theorem dL_law_1013 : decode cL_law 1013 = .ok (.iload_n 3, 1) := dk_29_ (show cL_law.data.toList[1013]? = some 0x1d from (LBL_lawr_63 5).trans (by decide +kernel))
theorem dL_law_1014 : decode cL_law 1014 = .ok (.iconst 1, 1) := dk_4_ (show cL_law.data.toList[1014]? = some 0x04 from (LBL_lawr_63 6).trans (by decide +kernel))
theorem dL_law_1015 : decode cL_law 1015 = .ok (.iadd, 1) := dk_96_ (show cL_law.data.toList[1015]? = some 0x60 from (LBL_lawr_63 7).trans (by decide +kernel))
theorem dL_law_1016 : decode cL_law 1016 = .ok (.iaload, 1) := dk_46_ (show cL_law.data.toList[1016]? = some 0x2e from (LBL_lawr_63 8).trans (by decide +kernel))
theorem dL_law_1017 : decode cL_law 1017 = .ok (.aload_n 0, 1) := dk_42_ (show cL_law.data.toList[1017]? = some 0x2a from (LBL_lawr_63 9).trans (by decide +kernel))
theorem dL_law_1018 : decode cL_law 1018 = .ok (.iload_n 3, 1) := dk_29_ (show cL_law.data.toList[1018]? = some 0x1d from (LBL_lawr_63 10).trans (by decide +kernel))
theorem dL_law_1019 : decode cL_law 1019 = .ok (.iconst 2, 1) := dk_5_ (show cL_law.data.toList[1019]? = some 0x05 from (LBL_lawr_63 11).trans (by decide +kernel))
theorem dL_law_1020 : decode cL_law 1020 = .ok (.iadd, 1) := dk_96_ (show cL_law.data.toList[1020]? = some 0x60 from (LBL_lawr_63 12).trans (by decide +kernel))
theorem dL_law_1021 : decode cL_law 1021 = .ok (.iaload, 1) := dk_46_ (show cL_law.data.toList[1021]? = some 0x2e from (LBL_lawr_63 13).trans (by decide +kernel))
theorem dL_law_1022 : decode cL_law 1022 = .ok (.invokevirtual 127, 3) := dk_182_ (show cL_law.data.toList[1022]? = some 0xb6 from (LBL_lawr_63 14).trans (by decide +kernel)) (show cL_law.data.toList[1023]? = some 0x00 from (LBL_lawr_63 15).trans (by decide +kernel)) (show cL_law.data.toList[1024]? = some 0x7f from (LBL_lawr_64 0).trans (by decide +kernel)) (by decide)
theorem dL_law_1025 : decode cL_law 1025 = .ok (.pop, 1) := dk_87_ (show cL_law.data.toList[1025]? = some 0x57 from (LBL_lawr_64 1).trans (by decide +kernel))
theorem dL_law_1026 : decode cL_law 1026 = .ok (.aload_n 2, 1) := dk_44_ (show cL_law.data.toList[1026]? = some 0x2c from (LBL_lawr_64 2).trans (by decide +kernel))
theorem dL_law_1027 : decode cL_law 1027 = .ok (.aload_n 0, 1) := dk_42_ (show cL_law.data.toList[1027]? = some 0x2a from (LBL_lawr_64 3).trans (by decide +kernel))
theorem dL_law_1028 : decode cL_law 1028 = .ok (.iload_n 3, 1) := dk_29_ (show cL_law.data.toList[1028]? = some 0x1d from (LBL_lawr_64 4).trans (by decide +kernel))
theorem dL_law_1029 : decode cL_law 1029 = .ok (.iconst 1, 1) := dk_4_ (show cL_law.data.toList[1029]? = some 0x04 from (LBL_lawr_64 5).trans (by decide +kernel))
theorem dL_law_1030 : decode cL_law 1030 = .ok (.iadd, 1) := dk_96_ (show cL_law.data.toList[1030]? = some 0x60 from (LBL_lawr_64 6).trans (by decide +kernel))
theorem dL_law_1031 : decode cL_law 1031 = .ok (.iaload, 1) := dk_46_ (show cL_law.data.toList[1031]? = some 0x2e from (LBL_lawr_64 7).trans (by decide +kernel))
theorem dL_law_1032 : decode cL_law 1032 = .ok (.aload_n 0, 1) := dk_42_ (show cL_law.data.toList[1032]? = some 0x2a from (LBL_lawr_64 8).trans (by decide +kernel))
theorem dL_law_1033 : decode cL_law 1033 = .ok (.iload_n 3, 1) := dk_29_ (show cL_law.data.toList[1033]? = some 0x1d from (LBL_lawr_64 9).trans (by decide +kernel))
theorem dL_law_1034 : decode cL_law 1034 = .ok (.iconst 2, 1) := dk_5_ (show cL_law.data.toList[1034]? = some 0x05 from (LBL_lawr_64 10).trans (by decide +kernel))
theorem dL_law_1035 : decode cL_law 1035 = .ok (.iadd, 1) := dk_96_ (show cL_law.data.toList[1035]? = some 0x60 from (LBL_lawr_64 11).trans (by decide +kernel))
theorem dL_law_1036 : decode cL_law 1036 = .ok (.iaload, 1) := dk_46_ (show cL_law.data.toList[1036]? = some 0x2e from (LBL_lawr_64 12).trans (by decide +kernel))
theorem dL_law_1037 : decode cL_law 1037 = .ok (.invokevirtual 130, 3) := dk_182_ (show cL_law.data.toList[1037]? = some 0xb6 from (LBL_lawr_64 13).trans (by decide +kernel)) (show cL_law.data.toList[1038]? = some 0x00 from (LBL_lawr_64 14).trans (by decide +kernel)) (show cL_law.data.toList[1039]? = some 0x82 from (LBL_lawr_64 15).trans (by decide +kernel)) (by decide)
theorem dL_law_1040 : decode cL_law 1040 = .ok (.pop, 1) := dk_87_ (show cL_law.data.toList[1040]? = some 0x57 from (LBL_lawr_65 0).trans (by decide +kernel))
theorem dL_law_1041 : decode cL_law 1041 = .ok (.goto 441, 3) := dk_167_ (show cL_law.data.toList[1041]? = some 0xa7 from (LBL_lawr_65 1).trans (by decide +kernel)) (show cL_law.data.toList[1042]? = some 0x01 from (LBL_lawr_65 2).trans (by decide +kernel)) (show cL_law.data.toList[1043]? = some 0xb9 from (LBL_lawr_65 3).trans (by decide +kernel)) (by decide)
theorem dL_law_1044 : decode cL_law 1044 = .ok (.aload_n 1, 1) := dk_43_ (show cL_law.data.toList[1044]? = some 0x2b from (LBL_lawr_65 4).trans (by decide +kernel))
theorem dL_law_1045 : decode cL_law 1045 = .ok (.invokevirtual 131, 3) := dk_182_ (show cL_law.data.toList[1045]? = some 0xb6 from (LBL_lawr_65 5).trans (by decide +kernel)) (show cL_law.data.toList[1046]? = some 0x00 from (LBL_lawr_65 6).trans (by decide +kernel)) (show cL_law.data.toList[1047]? = some 0x83 from (LBL_lawr_65 7).trans (by decide +kernel)) (by decide)
theorem dL_law_1048 : decode cL_law 1048 = .ok (.pop, 1) := dk_87_ (show cL_law.data.toList[1048]? = some 0x57 from (LBL_lawr_65 8).trans (by decide +kernel))
theorem dL_law_1049 : decode cL_law 1049 = .ok (.aload_n 2, 1) := dk_44_ (show cL_law.data.toList[1049]? = some 0x2c from (LBL_lawr_65 9).trans (by decide +kernel))
theorem dL_law_1050 : decode cL_law 1050 = .ok (.invokevirtual 134, 3) := dk_182_ (show cL_law.data.toList[1050]? = some 0xb6 from (LBL_lawr_65 10).trans (by decide +kernel)) (show cL_law.data.toList[1051]? = some 0x00 from (LBL_lawr_65 11).trans (by decide +kernel)) (show cL_law.data.toList[1052]? = some 0x86 from (LBL_lawr_65 12).trans (by decide +kernel)) (by decide)
theorem dL_law_1053 : decode cL_law 1053 = .ok (.pop, 1) := dk_87_ (show cL_law.data.toList[1053]? = some 0x57 from (LBL_lawr_65 13).trans (by decide +kernel))
theorem dL_law_1054 : decode cL_law 1054 = .ok (.goto 428, 3) := dk_167_ (show cL_law.data.toList[1054]? = some 0xa7 from (LBL_lawr_65 14).trans (by decide +kernel)) (show cL_law.data.toList[1055]? = some 0x01 from (LBL_lawr_65 15).trans (by decide +kernel)) (show cL_law.data.toList[1056]? = some 0xac from (LBL_lawr_66 0).trans (by decide +kernel)) (by decide)
theorem dL_law_1057 : decode cL_law 1057 = .ok (.aload_n 1, 1) := dk_43_ (show cL_law.data.toList[1057]? = some 0x2b from (LBL_lawr_66 1).trans (by decide +kernel))
theorem dL_law_1058 : decode cL_law 1058 = .ok (.aload_n 0, 1) := dk_42_ (show cL_law.data.toList[1058]? = some 0x2a from (LBL_lawr_66 2).trans (by decide +kernel))
theorem dL_law_1059 : decode cL_law 1059 = .ok (.iload_n 3, 1) := dk_29_ (show cL_law.data.toList[1059]? = some 0x1d from (LBL_lawr_66 3).trans (by decide +kernel))
theorem dL_law_1060 : decode cL_law 1060 = .ok (.iconst 1, 1) := dk_4_ (show cL_law.data.toList[1060]? = some 0x04 from (LBL_lawr_66 4).trans (by decide +kernel))
theorem dL_law_1061 : decode cL_law 1061 = .ok (.iadd, 1) := dk_96_ (show cL_law.data.toList[1061]? = some 0x60 from (LBL_lawr_66 5).trans (by decide +kernel))
theorem dL_law_1062 : decode cL_law 1062 = .ok (.iaload, 1) := dk_46_ (show cL_law.data.toList[1062]? = some 0x2e from (LBL_lawr_66 6).trans (by decide +kernel))
theorem dL_law_1063 : decode cL_law 1063 = .ok (.aload_n 0, 1) := dk_42_ (show cL_law.data.toList[1063]? = some 0x2a from (LBL_lawr_66 7).trans (by decide +kernel))
theorem dL_law_1064 : decode cL_law 1064 = .ok (.iload_n 3, 1) := dk_29_ (show cL_law.data.toList[1064]? = some 0x1d from (LBL_lawr_66 8).trans (by decide +kernel))
theorem dL_law_1065 : decode cL_law 1065 = .ok (.iconst 2, 1) := dk_5_ (show cL_law.data.toList[1065]? = some 0x05 from (LBL_lawr_66 9).trans (by decide +kernel))
theorem dL_law_1066 : decode cL_law 1066 = .ok (.iadd, 1) := dk_96_ (show cL_law.data.toList[1066]? = some 0x60 from (LBL_lawr_66 10).trans (by decide +kernel))
theorem dL_law_1067 : decode cL_law 1067 = .ok (.iaload, 1) := dk_46_ (show cL_law.data.toList[1067]? = some 0x2e from (LBL_lawr_66 11).trans (by decide +kernel))
theorem dL_law_1068 : decode cL_law 1068 = .ok (.invokevirtual 135, 3) := dk_182_ (show cL_law.data.toList[1068]? = some 0xb6 from (LBL_lawr_66 12).trans (by decide +kernel)) (show cL_law.data.toList[1069]? = some 0x00 from (LBL_lawr_66 13).trans (by decide +kernel)) (show cL_law.data.toList[1070]? = some 0x87 from (LBL_lawr_66 14).trans (by decide +kernel)) (by decide)
theorem dL_law_1071 : decode cL_law 1071 = .ok (.pop, 1) := dk_87_ (show cL_law.data.toList[1071]? = some 0x57 from (LBL_lawr_66 15).trans (by decide +kernel))
theorem dL_law_1072 : decode cL_law 1072 = .ok (.aload_n 2, 1) := dk_44_ (show cL_law.data.toList[1072]? = some 0x2c from (LBL_lawr_67 0).trans (by decide +kernel))
theorem dL_law_1073 : decode cL_law 1073 = .ok (.aload_n 0, 1) := dk_42_ (show cL_law.data.toList[1073]? = some 0x2a from (LBL_lawr_67 1).trans (by decide +kernel))
theorem dL_law_1074 : decode cL_law 1074 = .ok (.iload_n 3, 1) := dk_29_ (show cL_law.data.toList[1074]? = some 0x1d from (LBL_lawr_67 2).trans (by decide +kernel))
theorem dL_law_1075 : decode cL_law 1075 = .ok (.iconst 1, 1) := dk_4_ (show cL_law.data.toList[1075]? = some 0x04 from (LBL_lawr_67 3).trans (by decide +kernel))
theorem dL_law_1076 : decode cL_law 1076 = .ok (.iadd, 1) := dk_96_ (show cL_law.data.toList[1076]? = some 0x60 from (LBL_lawr_67 4).trans (by decide +kernel))
theorem dL_law_1077 : decode cL_law 1077 = .ok (.iaload, 1) := dk_46_ (show cL_law.data.toList[1077]? = some 0x2e from (LBL_lawr_67 5).trans (by decide +kernel))
theorem dL_law_1078 : decode cL_law 1078 = .ok (.aload_n 0, 1) := dk_42_ (show cL_law.data.toList[1078]? = some 0x2a from (LBL_lawr_67 6).trans (by decide +kernel))
theorem dL_law_1079 : decode cL_law 1079 = .ok (.iload_n 3, 1) := dk_29_ (show cL_law.data.toList[1079]? = some 0x1d from (LBL_lawr_67 7).trans (by decide +kernel))
theorem dL_law_1080 : decode cL_law 1080 = .ok (.iconst 2, 1) := dk_5_ (show cL_law.data.toList[1080]? = some 0x05 from (LBL_lawr_67 8).trans (by decide +kernel))
theorem dL_law_1081 : decode cL_law 1081 = .ok (.iadd, 1) := dk_96_ (show cL_law.data.toList[1081]? = some 0x60 from (LBL_lawr_67 9).trans (by decide +kernel))
theorem dL_law_1082 : decode cL_law 1082 = .ok (.iaload, 1) := dk_46_ (show cL_law.data.toList[1082]? = some 0x2e from (LBL_lawr_67 10).trans (by decide +kernel))
theorem dL_law_1083 : decode cL_law 1083 = .ok (.invokevirtual 138, 3) := dk_182_ (show cL_law.data.toList[1083]? = some 0xb6 from (LBL_lawr_67 11).trans (by decide +kernel)) (show cL_law.data.toList[1084]? = some 0x00 from (LBL_lawr_67 12).trans (by decide +kernel)) (show cL_law.data.toList[1085]? = some 0x8a from (LBL_lawr_67 13).trans (by decide +kernel)) (by decide)
theorem dL_law_1086 : decode cL_law 1086 = .ok (.pop, 1) := dk_87_ (show cL_law.data.toList[1086]? = some 0x57 from (LBL_lawr_67 14).trans (by decide +kernel))
theorem dL_law_1087 : decode cL_law 1087 = .ok (.goto 395, 3) := dk_167_ (show cL_law.data.toList[1087]? = some 0xa7 from (LBL_lawr_67 15).trans (by decide +kernel)) (show cL_law.data.toList[1088]? = some 0x01 from (LBL_lawr_68 0).trans (by decide +kernel)) (show cL_law.data.toList[1089]? = some 0x8b from (LBL_lawr_68 1).trans (by decide +kernel)) (by decide)
theorem dL_law_1090 : decode cL_law 1090 = .ok (.aload_n 1, 1) := dk_43_ (show cL_law.data.toList[1090]? = some 0x2b from (LBL_lawr_68 2).trans (by decide +kernel))
theorem dL_law_1091 : decode cL_law 1091 = .ok (.invokevirtual 139, 3) := dk_182_ (show cL_law.data.toList[1091]? = some 0xb6 from (LBL_lawr_68 3).trans (by decide +kernel)) (show cL_law.data.toList[1092]? = some 0x00 from (LBL_lawr_68 4).trans (by decide +kernel)) (show cL_law.data.toList[1093]? = some 0x8b from (LBL_lawr_68 5).trans (by decide +kernel)) (by decide)
theorem dL_law_1094 : decode cL_law 1094 = .ok (.pop, 1) := dk_87_ (show cL_law.data.toList[1094]? = some 0x57 from (LBL_lawr_68 6).trans (by decide +kernel))
theorem dL_law_1095 : decode cL_law 1095 = .ok (.aload_n 2, 1) := dk_44_ (show cL_law.data.toList[1095]? = some 0x2c from (LBL_lawr_68 7).trans (by decide +kernel))
theorem dL_law_1096 : decode cL_law 1096 = .ok (.invokevirtual 142, 3) := dk_182_ (show cL_law.data.toList[1096]? = some 0xb6 from (LBL_lawr_68 8).trans (by decide +kernel)) (show cL_law.data.toList[1097]? = some 0x00 from (LBL_lawr_68 9).trans (by decide +kernel)) (show cL_law.data.toList[1098]? = some 0x8e from (LBL_lawr_68 10).trans (by decide +kernel)) (by decide)
theorem dL_law_1099 : decode cL_law 1099 = .ok (.pop, 1) := dk_87_ (show cL_law.data.toList[1099]? = some 0x57 from (LBL_lawr_68 11).trans (by decide +kernel))
theorem dL_law_1100 : decode cL_law 1100 = .ok (.goto 382, 3) := dk_167_ (show cL_law.data.toList[1100]? = some 0xa7 from (LBL_lawr_68 12).trans (by decide +kernel)) (show cL_law.data.toList[1101]? = some 0x01 from (LBL_lawr_68 13).trans (by decide +kernel)) (show cL_law.data.toList[1102]? = some 0x7e from (LBL_lawr_68 14).trans (by decide +kernel)) (by decide)
theorem dL_law_1103 : decode cL_law 1103 = .ok (.aload_n 1, 1) := dk_43_ (show cL_law.data.toList[1103]? = some 0x2b from (LBL_lawr_68 15).trans (by decide +kernel))
theorem dL_law_1104 : decode cL_law 1104 = .ok (.aload_n 0, 1) := dk_42_ (show cL_law.data.toList[1104]? = some 0x2a from (LBL_lawr_69 0).trans (by decide +kernel))
theorem dL_law_1105 : decode cL_law 1105 = .ok (.iload_n 3, 1) := dk_29_ (show cL_law.data.toList[1105]? = some 0x1d from (LBL_lawr_69 1).trans (by decide +kernel))
theorem dL_law_1106 : decode cL_law 1106 = .ok (.iconst 1, 1) := dk_4_ (show cL_law.data.toList[1106]? = some 0x04 from (LBL_lawr_69 2).trans (by decide +kernel))
theorem dL_law_1107 : decode cL_law 1107 = .ok (.iadd, 1) := dk_96_ (show cL_law.data.toList[1107]? = some 0x60 from (LBL_lawr_69 3).trans (by decide +kernel))
theorem dL_law_1108 : decode cL_law 1108 = .ok (.iaload, 1) := dk_46_ (show cL_law.data.toList[1108]? = some 0x2e from (LBL_lawr_69 4).trans (by decide +kernel))
theorem dL_law_1109 : decode cL_law 1109 = .ok (.aload_n 0, 1) := dk_42_ (show cL_law.data.toList[1109]? = some 0x2a from (LBL_lawr_69 5).trans (by decide +kernel))
theorem dL_law_1110 : decode cL_law 1110 = .ok (.iload_n 3, 1) := dk_29_ (show cL_law.data.toList[1110]? = some 0x1d from (LBL_lawr_69 6).trans (by decide +kernel))
theorem dL_law_1111 : decode cL_law 1111 = .ok (.iconst 2, 1) := dk_5_ (show cL_law.data.toList[1111]? = some 0x05 from (LBL_lawr_69 7).trans (by decide +kernel))
theorem dL_law_1112 : decode cL_law 1112 = .ok (.iadd, 1) := dk_96_ (show cL_law.data.toList[1112]? = some 0x60 from (LBL_lawr_69 8).trans (by decide +kernel))
theorem dL_law_1113 : decode cL_law 1113 = .ok (.iaload, 1) := dk_46_ (show cL_law.data.toList[1113]? = some 0x2e from (LBL_lawr_69 9).trans (by decide +kernel))
theorem dL_law_1114 : decode cL_law 1114 = .ok (.invokevirtual 143, 3) := dk_182_ (show cL_law.data.toList[1114]? = some 0xb6 from (LBL_lawr_69 10).trans (by decide +kernel)) (show cL_law.data.toList[1115]? = some 0x00 from (LBL_lawr_69 11).trans (by decide +kernel)) (show cL_law.data.toList[1116]? = some 0x8f from (LBL_lawr_69 12).trans (by decide +kernel)) (by decide)
theorem dL_law_1117 : decode cL_law 1117 = .ok (.pop, 1) := dk_87_ (show cL_law.data.toList[1117]? = some 0x57 from (LBL_lawr_69 13).trans (by decide +kernel))
theorem dL_law_1118 : decode cL_law 1118 = .ok (.aload_n 2, 1) := dk_44_ (show cL_law.data.toList[1118]? = some 0x2c from (LBL_lawr_69 14).trans (by decide +kernel))
theorem dL_law_1119 : decode cL_law 1119 = .ok (.aload_n 0, 1) := dk_42_ (show cL_law.data.toList[1119]? = some 0x2a from (LBL_lawr_69 15).trans (by decide +kernel))
theorem dL_law_1120 : decode cL_law 1120 = .ok (.iload_n 3, 1) := dk_29_ (show cL_law.data.toList[1120]? = some 0x1d from (LBL_lawr_70 0).trans (by decide +kernel))
theorem dL_law_1121 : decode cL_law 1121 = .ok (.iconst 1, 1) := dk_4_ (show cL_law.data.toList[1121]? = some 0x04 from (LBL_lawr_70 1).trans (by decide +kernel))
theorem dL_law_1122 : decode cL_law 1122 = .ok (.iadd, 1) := dk_96_ (show cL_law.data.toList[1122]? = some 0x60 from (LBL_lawr_70 2).trans (by decide +kernel))
theorem dL_law_1123 : decode cL_law 1123 = .ok (.iaload, 1) := dk_46_ (show cL_law.data.toList[1123]? = some 0x2e from (LBL_lawr_70 3).trans (by decide +kernel))
theorem dL_law_1124 : decode cL_law 1124 = .ok (.aload_n 0, 1) := dk_42_ (show cL_law.data.toList[1124]? = some 0x2a from (LBL_lawr_70 4).trans (by decide +kernel))
theorem dL_law_1125 : decode cL_law 1125 = .ok (.iload_n 3, 1) := dk_29_ (show cL_law.data.toList[1125]? = some 0x1d from (LBL_lawr_70 5).trans (by decide +kernel))
theorem dL_law_1126 : decode cL_law 1126 = .ok (.iconst 2, 1) := dk_5_ (show cL_law.data.toList[1126]? = some 0x05 from (LBL_lawr_70 6).trans (by decide +kernel))
theorem dL_law_1127 : decode cL_law 1127 = .ok (.iadd, 1) := dk_96_ (show cL_law.data.toList[1127]? = some 0x60 from (LBL_lawr_70 7).trans (by decide +kernel))
theorem dL_law_1128 : decode cL_law 1128 = .ok (.iaload, 1) := dk_46_ (show cL_law.data.toList[1128]? = some 0x2e from (LBL_lawr_70 8).trans (by decide +kernel))
theorem dL_law_1129 : decode cL_law 1129 = .ok (.invokevirtual 146, 3) := dk_182_ (show cL_law.data.toList[1129]? = some 0xb6 from (LBL_lawr_70 9).trans (by decide +kernel)) (show cL_law.data.toList[1130]? = some 0x00 from (LBL_lawr_70 10).trans (by decide +kernel)) (show cL_law.data.toList[1131]? = some 0x92 from (LBL_lawr_70 11).trans (by decide +kernel)) (by decide)
theorem dL_law_1132 : decode cL_law 1132 = .ok (.pop, 1) := dk_87_ (show cL_law.data.toList[1132]? = some 0x57 from (LBL_lawr_70 12).trans (by decide +kernel))
theorem dL_law_1133 : decode cL_law 1133 = .ok (.goto 349, 3) := dk_167_ (show cL_law.data.toList[1133]? = some 0xa7 from (LBL_lawr_70 13).trans (by decide +kernel)) (show cL_law.data.toList[1134]? = some 0x01 from (LBL_lawr_70 14).trans (by decide +kernel)) (show cL_law.data.toList[1135]? = some 0x5d from (LBL_lawr_70 15).trans (by decide +kernel)) (by decide)
theorem dL_law_1136 : decode cL_law 1136 = .ok (.aload_n 1, 1) := dk_43_ (show cL_law.data.toList[1136]? = some 0x2b from (LBL_lawr_71 0).trans (by decide +kernel))
theorem dL_law_1137 : decode cL_law 1137 = .ok (.invokevirtual 147, 3) := dk_182_ (show cL_law.data.toList[1137]? = some 0xb6 from (LBL_lawr_71 1).trans (by decide +kernel)) (show cL_law.data.toList[1138]? = some 0x00 from (LBL_lawr_71 2).trans (by decide +kernel)) (show cL_law.data.toList[1139]? = some 0x93 from (LBL_lawr_71 3).trans (by decide +kernel)) (by decide)
theorem dL_law_1140 : decode cL_law 1140 = .ok (.pop, 1) := dk_87_ (show cL_law.data.toList[1140]? = some 0x57 from (LBL_lawr_71 4).trans (by decide +kernel))
theorem dL_law_1141 : decode cL_law 1141 = .ok (.aload_n 2, 1) := dk_44_ (show cL_law.data.toList[1141]? = some 0x2c from (LBL_lawr_71 5).trans (by decide +kernel))
theorem dL_law_1142 : decode cL_law 1142 = .ok (.invokevirtual 150, 3) := dk_182_ (show cL_law.data.toList[1142]? = some 0xb6 from (LBL_lawr_71 6).trans (by decide +kernel)) (show cL_law.data.toList[1143]? = some 0x00 from (LBL_lawr_71 7).trans (by decide +kernel)) (show cL_law.data.toList[1144]? = some 0x96 from (LBL_lawr_71 8).trans (by decide +kernel)) (by decide)
theorem dL_law_1145 : decode cL_law 1145 = .ok (.pop, 1) := dk_87_ (show cL_law.data.toList[1145]? = some 0x57 from (LBL_lawr_71 9).trans (by decide +kernel))
theorem dL_law_1146 : decode cL_law 1146 = .ok (.goto 336, 3) := dk_167_ (show cL_law.data.toList[1146]? = some 0xa7 from (LBL_lawr_71 10).trans (by decide +kernel)) (show cL_law.data.toList[1147]? = some 0x01 from (LBL_lawr_71 11).trans (by decide +kernel)) (show cL_law.data.toList[1148]? = some 0x50 from (LBL_lawr_71 12).trans (by decide +kernel)) (by decide)
theorem dL_law_1149 : decode cL_law 1149 = .ok (.aload_n 1, 1) := dk_43_ (show cL_law.data.toList[1149]? = some 0x2b from (LBL_lawr_71 13).trans (by decide +kernel))
theorem dL_law_1150 : decode cL_law 1150 = .ok (.invokevirtual 151, 3) := dk_182_ (show cL_law.data.toList[1150]? = some 0xb6 from (LBL_lawr_71 14).trans (by decide +kernel)) (show cL_law.data.toList[1151]? = some 0x00 from (LBL_lawr_71 15).trans (by decide +kernel)) (show cL_law.data.toList[1152]? = some 0x97 from (LBL_lawr_72 0).trans (by decide +kernel)) (by decide)
theorem dL_law_1153 : decode cL_law 1153 = .ok (.pop, 1) := dk_87_ (show cL_law.data.toList[1153]? = some 0x57 from (LBL_lawr_72 1).trans (by decide +kernel))
theorem dL_law_1154 : decode cL_law 1154 = .ok (.aload_n 2, 1) := dk_44_ (show cL_law.data.toList[1154]? = some 0x2c from (LBL_lawr_72 2).trans (by decide +kernel))
theorem dL_law_1155 : decode cL_law 1155 = .ok (.invokevirtual 154, 3) := dk_182_ (show cL_law.data.toList[1155]? = some 0xb6 from (LBL_lawr_72 3).trans (by decide +kernel)) (show cL_law.data.toList[1156]? = some 0x00 from (LBL_lawr_72 4).trans (by decide +kernel)) (show cL_law.data.toList[1157]? = some 0x9a from (LBL_lawr_72 5).trans (by decide +kernel)) (by decide)
theorem dL_law_1158 : decode cL_law 1158 = .ok (.pop, 1) := dk_87_ (show cL_law.data.toList[1158]? = some 0x57 from (LBL_lawr_72 6).trans (by decide +kernel))
theorem dL_law_1159 : decode cL_law 1159 = .ok (.goto 323, 3) := dk_167_ (show cL_law.data.toList[1159]? = some 0xa7 from (LBL_lawr_72 7).trans (by decide +kernel)) (show cL_law.data.toList[1160]? = some 0x01 from (LBL_lawr_72 8).trans (by decide +kernel)) (show cL_law.data.toList[1161]? = some 0x43 from (LBL_lawr_72 9).trans (by decide +kernel)) (by decide)
theorem dL_law_1162 : decode cL_law 1162 = .ok (.aload_n 1, 1) := dk_43_ (show cL_law.data.toList[1162]? = some 0x2b from (LBL_lawr_72 10).trans (by decide +kernel))
theorem dL_law_1163 : decode cL_law 1163 = .ok (.aload_n 0, 1) := dk_42_ (show cL_law.data.toList[1163]? = some 0x2a from (LBL_lawr_72 11).trans (by decide +kernel))
theorem dL_law_1164 : decode cL_law 1164 = .ok (.iload_n 3, 1) := dk_29_ (show cL_law.data.toList[1164]? = some 0x1d from (LBL_lawr_72 12).trans (by decide +kernel))
theorem dL_law_1165 : decode cL_law 1165 = .ok (.iconst 1, 1) := dk_4_ (show cL_law.data.toList[1165]? = some 0x04 from (LBL_lawr_72 13).trans (by decide +kernel))
theorem dL_law_1166 : decode cL_law 1166 = .ok (.iadd, 1) := dk_96_ (show cL_law.data.toList[1166]? = some 0x60 from (LBL_lawr_72 14).trans (by decide +kernel))
theorem dL_law_1167 : decode cL_law 1167 = .ok (.iaload, 1) := dk_46_ (show cL_law.data.toList[1167]? = some 0x2e from (LBL_lawr_72 15).trans (by decide +kernel))
theorem dL_law_1168 : decode cL_law 1168 = .ok (.aload_n 0, 1) := dk_42_ (show cL_law.data.toList[1168]? = some 0x2a from (LBL_lawr_73 0).trans (by decide +kernel))
theorem dL_law_1169 : decode cL_law 1169 = .ok (.iload_n 3, 1) := dk_29_ (show cL_law.data.toList[1169]? = some 0x1d from (LBL_lawr_73 1).trans (by decide +kernel))
theorem dL_law_1170 : decode cL_law 1170 = .ok (.iconst 2, 1) := dk_5_ (show cL_law.data.toList[1170]? = some 0x05 from (LBL_lawr_73 2).trans (by decide +kernel))
theorem dL_law_1171 : decode cL_law 1171 = .ok (.iadd, 1) := dk_96_ (show cL_law.data.toList[1171]? = some 0x60 from (LBL_lawr_73 3).trans (by decide +kernel))
theorem dL_law_1172 : decode cL_law 1172 = .ok (.iaload, 1) := dk_46_ (show cL_law.data.toList[1172]? = some 0x2e from (LBL_lawr_73 4).trans (by decide +kernel))
theorem dL_law_1173 : decode cL_law 1173 = .ok (.aload_n 0, 1) := dk_42_ (show cL_law.data.toList[1173]? = some 0x2a from (LBL_lawr_73 5).trans (by decide +kernel))
theorem dL_law_1174 : decode cL_law 1174 = .ok (.iload_n 3, 1) := dk_29_ (show cL_law.data.toList[1174]? = some 0x1d from (LBL_lawr_73 6).trans (by decide +kernel))
theorem dL_law_1175 : decode cL_law 1175 = .ok (.iconst 3, 1) := dk_6_ (show cL_law.data.toList[1175]? = some 0x06 from (LBL_lawr_73 7).trans (by decide +kernel))
theorem dL_law_1176 : decode cL_law 1176 = .ok (.iadd, 1) := dk_96_ (show cL_law.data.toList[1176]? = some 0x60 from (LBL_lawr_73 8).trans (by decide +kernel))
theorem dL_law_1177 : decode cL_law 1177 = .ok (.iaload, 1) := dk_46_ (show cL_law.data.toList[1177]? = some 0x2e from (LBL_lawr_73 9).trans (by decide +kernel))
theorem dL_law_1178 : decode cL_law 1178 = .ok (.invokevirtual 155, 3) := dk_182_ (show cL_law.data.toList[1178]? = some 0xb6 from (LBL_lawr_73 10).trans (by decide +kernel)) (show cL_law.data.toList[1179]? = some 0x00 from (LBL_lawr_73 11).trans (by decide +kernel)) (show cL_law.data.toList[1180]? = some 0x9b from (LBL_lawr_73 12).trans (by decide +kernel)) (by decide)
theorem dL_law_1181 : decode cL_law 1181 = .ok (.pop, 1) := dk_87_ (show cL_law.data.toList[1181]? = some 0x57 from (LBL_lawr_73 13).trans (by decide +kernel))
theorem dL_law_1182 : decode cL_law 1182 = .ok (.aload_n 2, 1) := dk_44_ (show cL_law.data.toList[1182]? = some 0x2c from (LBL_lawr_73 14).trans (by decide +kernel))
theorem dL_law_1183 : decode cL_law 1183 = .ok (.aload_n 0, 1) := dk_42_ (show cL_law.data.toList[1183]? = some 0x2a from (LBL_lawr_73 15).trans (by decide +kernel))
theorem dL_law_1184 : decode cL_law 1184 = .ok (.iload_n 3, 1) := dk_29_ (show cL_law.data.toList[1184]? = some 0x1d from (LBL_lawr_74 0).trans (by decide +kernel))
theorem dL_law_1185 : decode cL_law 1185 = .ok (.iconst 1, 1) := dk_4_ (show cL_law.data.toList[1185]? = some 0x04 from (LBL_lawr_74 1).trans (by decide +kernel))
theorem dL_law_1186 : decode cL_law 1186 = .ok (.iadd, 1) := dk_96_ (show cL_law.data.toList[1186]? = some 0x60 from (LBL_lawr_74 2).trans (by decide +kernel))
theorem dL_law_1187 : decode cL_law 1187 = .ok (.iaload, 1) := dk_46_ (show cL_law.data.toList[1187]? = some 0x2e from (LBL_lawr_74 3).trans (by decide +kernel))
theorem dL_law_1188 : decode cL_law 1188 = .ok (.aload_n 0, 1) := dk_42_ (show cL_law.data.toList[1188]? = some 0x2a from (LBL_lawr_74 4).trans (by decide +kernel))
theorem dL_law_1189 : decode cL_law 1189 = .ok (.iload_n 3, 1) := dk_29_ (show cL_law.data.toList[1189]? = some 0x1d from (LBL_lawr_74 5).trans (by decide +kernel))
theorem dL_law_1190 : decode cL_law 1190 = .ok (.iconst 2, 1) := dk_5_ (show cL_law.data.toList[1190]? = some 0x05 from (LBL_lawr_74 6).trans (by decide +kernel))
theorem dL_law_1191 : decode cL_law 1191 = .ok (.iadd, 1) := dk_96_ (show cL_law.data.toList[1191]? = some 0x60 from (LBL_lawr_74 7).trans (by decide +kernel))
theorem dL_law_1192 : decode cL_law 1192 = .ok (.iaload, 1) := dk_46_ (show cL_law.data.toList[1192]? = some 0x2e from (LBL_lawr_74 8).trans (by decide +kernel))
theorem dL_law_1193 : decode cL_law 1193 = .ok (.aload_n 0, 1) := dk_42_ (show cL_law.data.toList[1193]? = some 0x2a from (LBL_lawr_74 9).trans (by decide +kernel))
theorem dL_law_1194 : decode cL_law 1194 = .ok (.iload_n 3, 1) := dk_29_ (show cL_law.data.toList[1194]? = some 0x1d from (LBL_lawr_74 10).trans (by decide +kernel))
theorem dL_law_1195 : decode cL_law 1195 = .ok (.iconst 3, 1) := dk_6_ (show cL_law.data.toList[1195]? = some 0x06 from (LBL_lawr_74 11).trans (by decide +kernel))
theorem dL_law_1196 : decode cL_law 1196 = .ok (.iadd, 1) := dk_96_ (show cL_law.data.toList[1196]? = some 0x60 from (LBL_lawr_74 12).trans (by decide +kernel))
theorem dL_law_1197 : decode cL_law 1197 = .ok (.iaload, 1) := dk_46_ (show cL_law.data.toList[1197]? = some 0x2e from (LBL_lawr_74 13).trans (by decide +kernel))
theorem dL_law_1198 : decode cL_law 1198 = .ok (.invokevirtual 158, 3) := dk_182_ (show cL_law.data.toList[1198]? = some 0xb6 from (LBL_lawr_74 14).trans (by decide +kernel)) (show cL_law.data.toList[1199]? = some 0x00 from (LBL_lawr_74 15).trans (by decide +kernel)) (show cL_law.data.toList[1200]? = some 0x9e from (LBL_lawr_75 0).trans (by decide +kernel)) (by decide)
theorem dL_law_1201 : decode cL_law 1201 = .ok (.pop, 1) := dk_87_ (show cL_law.data.toList[1201]? = some 0x57 from (LBL_lawr_75 1).trans (by decide +kernel))
theorem dL_law_1202 : decode cL_law 1202 = .ok (.goto 280, 3) := dk_167_ (show cL_law.data.toList[1202]? = some 0xa7 from (LBL_lawr_75 2).trans (by decide +kernel)) (show cL_law.data.toList[1203]? = some 0x01 from (LBL_lawr_75 3).trans (by decide +kernel)) (show cL_law.data.toList[1204]? = some 0x18 from (LBL_lawr_75 4).trans (by decide +kernel)) (by decide)
theorem dL_law_1205 : decode cL_law 1205 = .ok (.aload_n 1, 1) := dk_43_ (show cL_law.data.toList[1205]? = some 0x2b from (LBL_lawr_75 5).trans (by decide +kernel))
theorem dL_law_1206 : decode cL_law 1206 = .ok (.aload_n 0, 1) := dk_42_ (show cL_law.data.toList[1206]? = some 0x2a from (LBL_lawr_75 6).trans (by decide +kernel))
theorem dL_law_1207 : decode cL_law 1207 = .ok (.iload_n 3, 1) := dk_29_ (show cL_law.data.toList[1207]? = some 0x1d from (LBL_lawr_75 7).trans (by decide +kernel))
theorem dL_law_1208 : decode cL_law 1208 = .ok (.iconst 1, 1) := dk_4_ (show cL_law.data.toList[1208]? = some 0x04 from (LBL_lawr_75 8).trans (by decide +kernel))
theorem dL_law_1209 : decode cL_law 1209 = .ok (.iadd, 1) := dk_96_ (show cL_law.data.toList[1209]? = some 0x60 from (LBL_lawr_75 9).trans (by decide +kernel))
theorem dL_law_1210 : decode cL_law 1210 = .ok (.iaload, 1) := dk_46_ (show cL_law.data.toList[1210]? = some 0x2e from (LBL_lawr_75 10).trans (by decide +kernel))
theorem dL_law_1211 : decode cL_law 1211 = .ok (.aload_n 0, 1) := dk_42_ (show cL_law.data.toList[1211]? = some 0x2a from (LBL_lawr_75 11).trans (by decide +kernel))
theorem dL_law_1212 : decode cL_law 1212 = .ok (.iload_n 3, 1) := dk_29_ (show cL_law.data.toList[1212]? = some 0x1d from (LBL_lawr_75 12).trans (by decide +kernel))
theorem dL_law_1213 : decode cL_law 1213 = .ok (.iconst 2, 1) := dk_5_ (show cL_law.data.toList[1213]? = some 0x05 from (LBL_lawr_75 13).trans (by decide +kernel))
theorem dL_law_1214 : decode cL_law 1214 = .ok (.iadd, 1) := dk_96_ (show cL_law.data.toList[1214]? = some 0x60 from (LBL_lawr_75 14).trans (by decide +kernel))
theorem dL_law_1215 : decode cL_law 1215 = .ok (.iaload, 1) := dk_46_ (show cL_law.data.toList[1215]? = some 0x2e from (LBL_lawr_75 15).trans (by decide +kernel))
theorem dL_law_1216 : decode cL_law 1216 = .ok (.aload_n 0, 1) := dk_42_ (show cL_law.data.toList[1216]? = some 0x2a from (LBL_lawr_76 0).trans (by decide +kernel))
theorem dL_law_1217 : decode cL_law 1217 = .ok (.iload_n 3, 1) := dk_29_ (show cL_law.data.toList[1217]? = some 0x1d from (LBL_lawr_76 1).trans (by decide +kernel))
theorem dL_law_1218 : decode cL_law 1218 = .ok (.iconst 3, 1) := dk_6_ (show cL_law.data.toList[1218]? = some 0x06 from (LBL_lawr_76 2).trans (by decide +kernel))
theorem dL_law_1219 : decode cL_law 1219 = .ok (.iadd, 1) := dk_96_ (show cL_law.data.toList[1219]? = some 0x60 from (LBL_lawr_76 3).trans (by decide +kernel))
theorem dL_law_1220 : decode cL_law 1220 = .ok (.iaload, 1) := dk_46_ (show cL_law.data.toList[1220]? = some 0x2e from (LBL_lawr_76 4).trans (by decide +kernel))
theorem dL_law_1221 : decode cL_law 1221 = .ok (.i2l, 1) := dk_133_ (show cL_law.data.toList[1221]? = some 0x85 from (LBL_lawr_76 5).trans (by decide +kernel))
theorem dL_law_1222 : decode cL_law 1222 = .ok (.bipush 32, 2) := dk_16_ (show cL_law.data.toList[1222]? = some 0x10 from (LBL_lawr_76 6).trans (by decide +kernel)) (show cL_law.data.toList[1223]? = some 0x20 from (LBL_lawr_76 7).trans (by decide +kernel)) (by decide)
theorem dL_law_1224 : decode cL_law 1224 = .ok (.lshl, 1) := dk_121_ (show cL_law.data.toList[1224]? = some 0x79 from (LBL_lawr_76 8).trans (by decide +kernel))
theorem dL_law_1225 : decode cL_law 1225 = .ok (.aload_n 0, 1) := dk_42_ (show cL_law.data.toList[1225]? = some 0x2a from (LBL_lawr_76 9).trans (by decide +kernel))
theorem dL_law_1226 : decode cL_law 1226 = .ok (.iload_n 3, 1) := dk_29_ (show cL_law.data.toList[1226]? = some 0x1d from (LBL_lawr_76 10).trans (by decide +kernel))
theorem dL_law_1227 : decode cL_law 1227 = .ok (.iconst 4, 1) := dk_7_ (show cL_law.data.toList[1227]? = some 0x07 from (LBL_lawr_76 11).trans (by decide +kernel))
theorem dL_law_1228 : decode cL_law 1228 = .ok (.iadd, 1) := dk_96_ (show cL_law.data.toList[1228]? = some 0x60 from (LBL_lawr_76 12).trans (by decide +kernel))
theorem dL_law_1229 : decode cL_law 1229 = .ok (.iaload, 1) := dk_46_ (show cL_law.data.toList[1229]? = some 0x2e from (LBL_lawr_76 13).trans (by decide +kernel))
theorem dL_law_1230 : decode cL_law 1230 = .ok (.i2l, 1) := dk_133_ (show cL_law.data.toList[1230]? = some 0x85 from (LBL_lawr_76 14).trans (by decide +kernel))
theorem dL_law_1231 : decode cL_law 1231 = .ok (.ldc2_w 159, 3) := dk_20_ (show cL_law.data.toList[1231]? = some 0x14 from (LBL_lawr_76 15).trans (by decide +kernel)) (show cL_law.data.toList[1232]? = some 0x00 from (LBL_lawr_77 0).trans (by decide +kernel)) (show cL_law.data.toList[1233]? = some 0x9f from (LBL_lawr_77 1).trans (by decide +kernel)) (by decide)
theorem dL_law_1234 : decode cL_law 1234 = .ok (.land, 1) := dk_127_ (show cL_law.data.toList[1234]? = some 0x7f from (LBL_lawr_77 2).trans (by decide +kernel))
theorem dL_law_1235 : decode cL_law 1235 = .ok (.lor, 1) := dk_129_ (show cL_law.data.toList[1235]? = some 0x81 from (LBL_lawr_77 3).trans (by decide +kernel))
theorem dL_law_1236 : decode cL_law 1236 = .ok (.invokevirtual 161, 3) := dk_182_ (show cL_law.data.toList[1236]? = some 0xb6 from (LBL_lawr_77 4).trans (by decide +kernel)) (show cL_law.data.toList[1237]? = some 0x00 from (LBL_lawr_77 5).trans (by decide +kernel)) (show cL_law.data.toList[1238]? = some 0xa1 from (LBL_lawr_77 6).trans (by decide +kernel)) (by decide)
theorem dL_law_1239 : decode cL_law 1239 = .ok (.pop2, 1) := dk_88_ (show cL_law.data.toList[1239]? = some 0x58 from (LBL_lawr_77 7).trans (by decide +kernel))
theorem dL_law_1240 : decode cL_law 1240 = .ok (.aload_n 2, 1) := dk_44_ (show cL_law.data.toList[1240]? = some 0x2c from (LBL_lawr_77 8).trans (by decide +kernel))
theorem dL_law_1241 : decode cL_law 1241 = .ok (.aload_n 0, 1) := dk_42_ (show cL_law.data.toList[1241]? = some 0x2a from (LBL_lawr_77 9).trans (by decide +kernel))
theorem dL_law_1242 : decode cL_law 1242 = .ok (.iload_n 3, 1) := dk_29_ (show cL_law.data.toList[1242]? = some 0x1d from (LBL_lawr_77 10).trans (by decide +kernel))
theorem dL_law_1243 : decode cL_law 1243 = .ok (.iconst 1, 1) := dk_4_ (show cL_law.data.toList[1243]? = some 0x04 from (LBL_lawr_77 11).trans (by decide +kernel))
theorem dL_law_1244 : decode cL_law 1244 = .ok (.iadd, 1) := dk_96_ (show cL_law.data.toList[1244]? = some 0x60 from (LBL_lawr_77 12).trans (by decide +kernel))
theorem dL_law_1245 : decode cL_law 1245 = .ok (.iaload, 1) := dk_46_ (show cL_law.data.toList[1245]? = some 0x2e from (LBL_lawr_77 13).trans (by decide +kernel))
theorem dL_law_1246 : decode cL_law 1246 = .ok (.aload_n 0, 1) := dk_42_ (show cL_law.data.toList[1246]? = some 0x2a from (LBL_lawr_77 14).trans (by decide +kernel))
theorem dL_law_1247 : decode cL_law 1247 = .ok (.iload_n 3, 1) := dk_29_ (show cL_law.data.toList[1247]? = some 0x1d from (LBL_lawr_77 15).trans (by decide +kernel))
theorem dL_law_1248 : decode cL_law 1248 = .ok (.iconst 2, 1) := dk_5_ (show cL_law.data.toList[1248]? = some 0x05 from (LBL_lawr_78 0).trans (by decide +kernel))
theorem dL_law_1249 : decode cL_law 1249 = .ok (.iadd, 1) := dk_96_ (show cL_law.data.toList[1249]? = some 0x60 from (LBL_lawr_78 1).trans (by decide +kernel))
theorem dL_law_1250 : decode cL_law 1250 = .ok (.iaload, 1) := dk_46_ (show cL_law.data.toList[1250]? = some 0x2e from (LBL_lawr_78 2).trans (by decide +kernel))
theorem dL_law_1251 : decode cL_law 1251 = .ok (.aload_n 0, 1) := dk_42_ (show cL_law.data.toList[1251]? = some 0x2a from (LBL_lawr_78 3).trans (by decide +kernel))
theorem dL_law_1252 : decode cL_law 1252 = .ok (.iload_n 3, 1) := dk_29_ (show cL_law.data.toList[1252]? = some 0x1d from (LBL_lawr_78 4).trans (by decide +kernel))
theorem dL_law_1253 : decode cL_law 1253 = .ok (.iconst 3, 1) := dk_6_ (show cL_law.data.toList[1253]? = some 0x06 from (LBL_lawr_78 5).trans (by decide +kernel))
theorem dL_law_1254 : decode cL_law 1254 = .ok (.iadd, 1) := dk_96_ (show cL_law.data.toList[1254]? = some 0x60 from (LBL_lawr_78 6).trans (by decide +kernel))
theorem dL_law_1255 : decode cL_law 1255 = .ok (.iaload, 1) := dk_46_ (show cL_law.data.toList[1255]? = some 0x2e from (LBL_lawr_78 7).trans (by decide +kernel))
theorem dL_law_1256 : decode cL_law 1256 = .ok (.i2l, 1) := dk_133_ (show cL_law.data.toList[1256]? = some 0x85 from (LBL_lawr_78 8).trans (by decide +kernel))
theorem dL_law_1257 : decode cL_law 1257 = .ok (.bipush 32, 2) := dk_16_ (show cL_law.data.toList[1257]? = some 0x10 from (LBL_lawr_78 9).trans (by decide +kernel)) (show cL_law.data.toList[1258]? = some 0x20 from (LBL_lawr_78 10).trans (by decide +kernel)) (by decide)
theorem dL_law_1259 : decode cL_law 1259 = .ok (.lshl, 1) := dk_121_ (show cL_law.data.toList[1259]? = some 0x79 from (LBL_lawr_78 11).trans (by decide +kernel))
theorem dL_law_1260 : decode cL_law 1260 = .ok (.aload_n 0, 1) := dk_42_ (show cL_law.data.toList[1260]? = some 0x2a from (LBL_lawr_78 12).trans (by decide +kernel))
theorem dL_law_1261 : decode cL_law 1261 = .ok (.iload_n 3, 1) := dk_29_ (show cL_law.data.toList[1261]? = some 0x1d from (LBL_lawr_78 13).trans (by decide +kernel))
theorem dL_law_1262 : decode cL_law 1262 = .ok (.iconst 4, 1) := dk_7_ (show cL_law.data.toList[1262]? = some 0x07 from (LBL_lawr_78 14).trans (by decide +kernel))
theorem dL_law_1263 : decode cL_law 1263 = .ok (.iadd, 1) := dk_96_ (show cL_law.data.toList[1263]? = some 0x60 from (LBL_lawr_78 15).trans (by decide +kernel))
theorem dL_law_1264 : decode cL_law 1264 = .ok (.iaload, 1) := dk_46_ (show cL_law.data.toList[1264]? = some 0x2e from (LBL_lawr_79 0).trans (by decide +kernel))
theorem dL_law_1265 : decode cL_law 1265 = .ok (.i2l, 1) := dk_133_ (show cL_law.data.toList[1265]? = some 0x85 from (LBL_lawr_79 1).trans (by decide +kernel))
theorem dL_law_1266 : decode cL_law 1266 = .ok (.ldc2_w 159, 3) := dk_20_ (show cL_law.data.toList[1266]? = some 0x14 from (LBL_lawr_79 2).trans (by decide +kernel)) (show cL_law.data.toList[1267]? = some 0x00 from (LBL_lawr_79 3).trans (by decide +kernel)) (show cL_law.data.toList[1268]? = some 0x9f from (LBL_lawr_79 4).trans (by decide +kernel)) (by decide)
theorem dL_law_1269 : decode cL_law 1269 = .ok (.land, 1) := dk_127_ (show cL_law.data.toList[1269]? = some 0x7f from (LBL_lawr_79 5).trans (by decide +kernel))
theorem dL_law_1270 : decode cL_law 1270 = .ok (.lor, 1) := dk_129_ (show cL_law.data.toList[1270]? = some 0x81 from (LBL_lawr_79 6).trans (by decide +kernel))
theorem dL_law_1271 : decode cL_law 1271 = .ok (.invokevirtual 165, 3) := dk_182_ (show cL_law.data.toList[1271]? = some 0xb6 from (LBL_lawr_79 7).trans (by decide +kernel)) (show cL_law.data.toList[1272]? = some 0x00 from (LBL_lawr_79 8).trans (by decide +kernel)) (show cL_law.data.toList[1273]? = some 0xa5 from (LBL_lawr_79 9).trans (by decide +kernel)) (by decide)
theorem dL_law_1274 : decode cL_law 1274 = .ok (.pop2, 1) := dk_88_ (show cL_law.data.toList[1274]? = some 0x58 from (LBL_lawr_79 10).trans (by decide +kernel))
theorem dL_law_1275 : decode cL_law 1275 = .ok (.goto 207, 3) := dk_167_ (show cL_law.data.toList[1275]? = some 0xa7 from (LBL_lawr_79 11).trans (by decide +kernel)) (show cL_law.data.toList[1276]? = some 0x00 from (LBL_lawr_79 12).trans (by decide +kernel)) (show cL_law.data.toList[1277]? = some 0xcf from (LBL_lawr_79 13).trans (by decide +kernel)) (by decide)
theorem dL_law_1278 : decode cL_law 1278 = .ok (.aload_n 1, 1) := dk_43_ (show cL_law.data.toList[1278]? = some 0x2b from (LBL_lawr_79 14).trans (by decide +kernel))
theorem dL_law_1279 : decode cL_law 1279 = .ok (.aload_n 0, 1) := dk_42_ (show cL_law.data.toList[1279]? = some 0x2a from (LBL_lawr_79 15).trans (by decide +kernel))
theorem dL_law_1280 : decode cL_law 1280 = .ok (.iload_n 3, 1) := dk_29_ (show cL_law.data.toList[1280]? = some 0x1d from (LBL_lawr_80 0).trans (by decide +kernel))
theorem dL_law_1281 : decode cL_law 1281 = .ok (.iconst 1, 1) := dk_4_ (show cL_law.data.toList[1281]? = some 0x04 from (LBL_lawr_80 1).trans (by decide +kernel))
theorem dL_law_1282 : decode cL_law 1282 = .ok (.iadd, 1) := dk_96_ (show cL_law.data.toList[1282]? = some 0x60 from (LBL_lawr_80 2).trans (by decide +kernel))
theorem dL_law_1283 : decode cL_law 1283 = .ok (.iaload, 1) := dk_46_ (show cL_law.data.toList[1283]? = some 0x2e from (LBL_lawr_80 3).trans (by decide +kernel))
theorem dL_law_1284 : decode cL_law 1284 = .ok (.aload_n 0, 1) := dk_42_ (show cL_law.data.toList[1284]? = some 0x2a from (LBL_lawr_80 4).trans (by decide +kernel))
theorem dL_law_1285 : decode cL_law 1285 = .ok (.iload_n 3, 1) := dk_29_ (show cL_law.data.toList[1285]? = some 0x1d from (LBL_lawr_80 5).trans (by decide +kernel))
theorem dL_law_1286 : decode cL_law 1286 = .ok (.iconst 2, 1) := dk_5_ (show cL_law.data.toList[1286]? = some 0x05 from (LBL_lawr_80 6).trans (by decide +kernel))
theorem dL_law_1287 : decode cL_law 1287 = .ok (.iadd, 1) := dk_96_ (show cL_law.data.toList[1287]? = some 0x60 from (LBL_lawr_80 7).trans (by decide +kernel))
theorem dL_law_1288 : decode cL_law 1288 = .ok (.iaload, 1) := dk_46_ (show cL_law.data.toList[1288]? = some 0x2e from (LBL_lawr_80 8).trans (by decide +kernel))
theorem dL_law_1289 : decode cL_law 1289 = .ok (.aload_n 0, 1) := dk_42_ (show cL_law.data.toList[1289]? = some 0x2a from (LBL_lawr_80 9).trans (by decide +kernel))
theorem dL_law_1290 : decode cL_law 1290 = .ok (.iload_n 3, 1) := dk_29_ (show cL_law.data.toList[1290]? = some 0x1d from (LBL_lawr_80 10).trans (by decide +kernel))
theorem dL_law_1291 : decode cL_law 1291 = .ok (.iconst 3, 1) := dk_6_ (show cL_law.data.toList[1291]? = some 0x06 from (LBL_lawr_80 11).trans (by decide +kernel))
theorem dL_law_1292 : decode cL_law 1292 = .ok (.iadd, 1) := dk_96_ (show cL_law.data.toList[1292]? = some 0x60 from (LBL_lawr_80 12).trans (by decide +kernel))
theorem dL_law_1293 : decode cL_law 1293 = .ok (.iaload, 1) := dk_46_ (show cL_law.data.toList[1293]? = some 0x2e from (LBL_lawr_80 13).trans (by decide +kernel))
theorem dL_law_1294 : decode cL_law 1294 = .ok (.aload_n 0, 1) := dk_42_ (show cL_law.data.toList[1294]? = some 0x2a from (LBL_lawr_80 14).trans (by decide +kernel))
theorem dL_law_1295 : decode cL_law 1295 = .ok (.iload_n 3, 1) := dk_29_ (show cL_law.data.toList[1295]? = some 0x1d from (LBL_lawr_80 15).trans (by decide +kernel))
theorem dL_law_1296 : decode cL_law 1296 = .ok (.iconst 4, 1) := dk_7_ (show cL_law.data.toList[1296]? = some 0x07 from (LBL_lawr_81 0).trans (by decide +kernel))
theorem dL_law_1297 : decode cL_law 1297 = .ok (.iadd, 1) := dk_96_ (show cL_law.data.toList[1297]? = some 0x60 from (LBL_lawr_81 1).trans (by decide +kernel))
theorem dL_law_1298 : decode cL_law 1298 = .ok (.iaload, 1) := dk_46_ (show cL_law.data.toList[1298]? = some 0x2e from (LBL_lawr_81 2).trans (by decide +kernel))
theorem dL_law_1299 : decode cL_law 1299 = .ok (.aload_n 0, 1) := dk_42_ (show cL_law.data.toList[1299]? = some 0x2a from (LBL_lawr_81 3).trans (by decide +kernel))
theorem dL_law_1300 : decode cL_law 1300 = .ok (.iload_n 3, 1) := dk_29_ (show cL_law.data.toList[1300]? = some 0x1d from (LBL_lawr_81 4).trans (by decide +kernel))
theorem dL_law_1301 : decode cL_law 1301 = .ok (.iconst 5, 1) := dk_8_ (show cL_law.data.toList[1301]? = some 0x08 from (LBL_lawr_81 5).trans (by decide +kernel))
theorem dL_law_1302 : decode cL_law 1302 = .ok (.iadd, 1) := dk_96_ (show cL_law.data.toList[1302]? = some 0x60 from (LBL_lawr_81 6).trans (by decide +kernel))
theorem dL_law_1303 : decode cL_law 1303 = .ok (.iaload, 1) := dk_46_ (show cL_law.data.toList[1303]? = some 0x2e from (LBL_lawr_81 7).trans (by decide +kernel))
theorem dL_law_1304 : decode cL_law 1304 = .ok (.invokevirtual 166, 3) := dk_182_ (show cL_law.data.toList[1304]? = some 0xb6 from (LBL_lawr_81 8).trans (by decide +kernel)) (show cL_law.data.toList[1305]? = some 0x00 from (LBL_lawr_81 9).trans (by decide +kernel)) (show cL_law.data.toList[1306]? = some 0xa6 from (LBL_lawr_81 10).trans (by decide +kernel)) (by decide)
theorem dL_law_1307 : decode cL_law 1307 = .ok (.pop, 1) := dk_87_ (show cL_law.data.toList[1307]? = some 0x57 from (LBL_lawr_81 11).trans (by decide +kernel))
theorem dL_law_1308 : decode cL_law 1308 = .ok (.aload_n 2, 1) := dk_44_ (show cL_law.data.toList[1308]? = some 0x2c from (LBL_lawr_81 12).trans (by decide +kernel))
theorem dL_law_1309 : decode cL_law 1309 = .ok (.aload_n 0, 1) := dk_42_ (show cL_law.data.toList[1309]? = some 0x2a from (LBL_lawr_81 13).trans (by decide +kernel))
theorem dL_law_1310 : decode cL_law 1310 = .ok (.iload_n 3, 1) := dk_29_ (show cL_law.data.toList[1310]? = some 0x1d from (LBL_lawr_81 14).trans (by decide +kernel))
theorem dL_law_1311 : decode cL_law 1311 = .ok (.iconst 1, 1) := dk_4_ (show cL_law.data.toList[1311]? = some 0x04 from (LBL_lawr_81 15).trans (by decide +kernel))
theorem dL_law_1312 : decode cL_law 1312 = .ok (.iadd, 1) := dk_96_ (show cL_law.data.toList[1312]? = some 0x60 from (LBL_lawr_82 0).trans (by decide +kernel))
theorem dL_law_1313 : decode cL_law 1313 = .ok (.iaload, 1) := dk_46_ (show cL_law.data.toList[1313]? = some 0x2e from (LBL_lawr_82 1).trans (by decide +kernel))
theorem dL_law_1314 : decode cL_law 1314 = .ok (.aload_n 0, 1) := dk_42_ (show cL_law.data.toList[1314]? = some 0x2a from (LBL_lawr_82 2).trans (by decide +kernel))
theorem dL_law_1315 : decode cL_law 1315 = .ok (.iload_n 3, 1) := dk_29_ (show cL_law.data.toList[1315]? = some 0x1d from (LBL_lawr_82 3).trans (by decide +kernel))
theorem dL_law_1316 : decode cL_law 1316 = .ok (.iconst 2, 1) := dk_5_ (show cL_law.data.toList[1316]? = some 0x05 from (LBL_lawr_82 4).trans (by decide +kernel))
theorem dL_law_1317 : decode cL_law 1317 = .ok (.iadd, 1) := dk_96_ (show cL_law.data.toList[1317]? = some 0x60 from (LBL_lawr_82 5).trans (by decide +kernel))
theorem dL_law_1318 : decode cL_law 1318 = .ok (.iaload, 1) := dk_46_ (show cL_law.data.toList[1318]? = some 0x2e from (LBL_lawr_82 6).trans (by decide +kernel))
theorem dL_law_1319 : decode cL_law 1319 = .ok (.aload_n 0, 1) := dk_42_ (show cL_law.data.toList[1319]? = some 0x2a from (LBL_lawr_82 7).trans (by decide +kernel))
theorem dL_law_1320 : decode cL_law 1320 = .ok (.iload_n 3, 1) := dk_29_ (show cL_law.data.toList[1320]? = some 0x1d from (LBL_lawr_82 8).trans (by decide +kernel))
theorem dL_law_1321 : decode cL_law 1321 = .ok (.iconst 3, 1) := dk_6_ (show cL_law.data.toList[1321]? = some 0x06 from (LBL_lawr_82 9).trans (by decide +kernel))
theorem dL_law_1322 : decode cL_law 1322 = .ok (.iadd, 1) := dk_96_ (show cL_law.data.toList[1322]? = some 0x60 from (LBL_lawr_82 10).trans (by decide +kernel))
theorem dL_law_1323 : decode cL_law 1323 = .ok (.iaload, 1) := dk_46_ (show cL_law.data.toList[1323]? = some 0x2e from (LBL_lawr_82 11).trans (by decide +kernel))
theorem dL_law_1324 : decode cL_law 1324 = .ok (.aload_n 0, 1) := dk_42_ (show cL_law.data.toList[1324]? = some 0x2a from (LBL_lawr_82 12).trans (by decide +kernel))
theorem dL_law_1325 : decode cL_law 1325 = .ok (.iload_n 3, 1) := dk_29_ (show cL_law.data.toList[1325]? = some 0x1d from (LBL_lawr_82 13).trans (by decide +kernel))
theorem dL_law_1326 : decode cL_law 1326 = .ok (.iconst 4, 1) := dk_7_ (show cL_law.data.toList[1326]? = some 0x07 from (LBL_lawr_82 14).trans (by decide +kernel))
theorem dL_law_1327 : decode cL_law 1327 = .ok (.iadd, 1) := dk_96_ (show cL_law.data.toList[1327]? = some 0x60 from (LBL_lawr_82 15).trans (by decide +kernel))
theorem dL_law_1328 : decode cL_law 1328 = .ok (.iaload, 1) := dk_46_ (show cL_law.data.toList[1328]? = some 0x2e from (LBL_lawr_83 0).trans (by decide +kernel))
theorem dL_law_1329 : decode cL_law 1329 = .ok (.aload_n 0, 1) := dk_42_ (show cL_law.data.toList[1329]? = some 0x2a from (LBL_lawr_83 1).trans (by decide +kernel))
theorem dL_law_1330 : decode cL_law 1330 = .ok (.iload_n 3, 1) := dk_29_ (show cL_law.data.toList[1330]? = some 0x1d from (LBL_lawr_83 2).trans (by decide +kernel))
theorem dL_law_1331 : decode cL_law 1331 = .ok (.iconst 5, 1) := dk_8_ (show cL_law.data.toList[1331]? = some 0x08 from (LBL_lawr_83 3).trans (by decide +kernel))
theorem dL_law_1332 : decode cL_law 1332 = .ok (.iadd, 1) := dk_96_ (show cL_law.data.toList[1332]? = some 0x60 from (LBL_lawr_83 4).trans (by decide +kernel))
theorem dL_law_1333 : decode cL_law 1333 = .ok (.iaload, 1) := dk_46_ (show cL_law.data.toList[1333]? = some 0x2e from (LBL_lawr_83 5).trans (by decide +kernel))
theorem dL_law_1334 : decode cL_law 1334 = .ok (.invokevirtual 170, 3) := dk_182_ (show cL_law.data.toList[1334]? = some 0xb6 from (LBL_lawr_83 6).trans (by decide +kernel)) (show cL_law.data.toList[1335]? = some 0x00 from (LBL_lawr_83 7).trans (by decide +kernel)) (show cL_law.data.toList[1336]? = some 0xaa from (LBL_lawr_83 8).trans (by decide +kernel)) (by decide)
theorem dL_law_1337 : decode cL_law 1337 = .ok (.pop, 1) := dk_87_ (show cL_law.data.toList[1337]? = some 0x57 from (LBL_lawr_83 9).trans (by decide +kernel))
theorem dL_law_1338 : decode cL_law 1338 = .ok (.goto 144, 3) := dk_167_ (show cL_law.data.toList[1338]? = some 0xa7 from (LBL_lawr_83 10).trans (by decide +kernel)) (show cL_law.data.toList[1339]? = some 0x00 from (LBL_lawr_83 11).trans (by decide +kernel)) (show cL_law.data.toList[1340]? = some 0x90 from (LBL_lawr_83 12).trans (by decide +kernel)) (by decide)
theorem dL_law_1341 : decode cL_law 1341 = .ok (.aload_n 1, 1) := dk_43_ (show cL_law.data.toList[1341]? = some 0x2b from (LBL_lawr_83 13).trans (by decide +kernel))
theorem dL_law_1342 : decode cL_law 1342 = .ok (.aload_n 0, 1) := dk_42_ (show cL_law.data.toList[1342]? = some 0x2a from (LBL_lawr_83 14).trans (by decide +kernel))
theorem dL_law_1343 : decode cL_law 1343 = .ok (.iload_n 3, 1) := dk_29_ (show cL_law.data.toList[1343]? = some 0x1d from (LBL_lawr_83 15).trans (by decide +kernel))
theorem dL_law_1344 : decode cL_law 1344 = .ok (.iconst 1, 1) := dk_4_ (show cL_law.data.toList[1344]? = some 0x04 from (LBL_lawr_84 0).trans (by decide +kernel))
theorem dL_law_1345 : decode cL_law 1345 = .ok (.iadd, 1) := dk_96_ (show cL_law.data.toList[1345]? = some 0x60 from (LBL_lawr_84 1).trans (by decide +kernel))
theorem dL_law_1346 : decode cL_law 1346 = .ok (.iaload, 1) := dk_46_ (show cL_law.data.toList[1346]? = some 0x2e from (LBL_lawr_84 2).trans (by decide +kernel))
theorem dL_law_1347 : decode cL_law 1347 = .ok (.aload_n 0, 1) := dk_42_ (show cL_law.data.toList[1347]? = some 0x2a from (LBL_lawr_84 3).trans (by decide +kernel))
theorem dL_law_1348 : decode cL_law 1348 = .ok (.iload_n 3, 1) := dk_29_ (show cL_law.data.toList[1348]? = some 0x1d from (LBL_lawr_84 4).trans (by decide +kernel))
theorem dL_law_1349 : decode cL_law 1349 = .ok (.iconst 2, 1) := dk_5_ (show cL_law.data.toList[1349]? = some 0x05 from (LBL_lawr_84 5).trans (by decide +kernel))
theorem dL_law_1350 : decode cL_law 1350 = .ok (.iadd, 1) := dk_96_ (show cL_law.data.toList[1350]? = some 0x60 from (LBL_lawr_84 6).trans (by decide +kernel))
theorem dL_law_1351 : decode cL_law 1351 = .ok (.iaload, 1) := dk_46_ (show cL_law.data.toList[1351]? = some 0x2e from (LBL_lawr_84 7).trans (by decide +kernel))
theorem dL_law_1352 : decode cL_law 1352 = .ok (.invokevirtual 171, 3) := dk_182_ (show cL_law.data.toList[1352]? = some 0xb6 from (LBL_lawr_84 8).trans (by decide +kernel)) (show cL_law.data.toList[1353]? = some 0x00 from (LBL_lawr_84 9).trans (by decide +kernel)) (show cL_law.data.toList[1354]? = some 0xab from (LBL_lawr_84 10).trans (by decide +kernel)) (by decide)
theorem dL_law_1355 : decode cL_law 1355 = .ok (.pop, 1) := dk_87_ (show cL_law.data.toList[1355]? = some 0x57 from (LBL_lawr_84 11).trans (by decide +kernel))
theorem dL_law_1356 : decode cL_law 1356 = .ok (.aload_n 2, 1) := dk_44_ (show cL_law.data.toList[1356]? = some 0x2c from (LBL_lawr_84 12).trans (by decide +kernel))
theorem dL_law_1357 : decode cL_law 1357 = .ok (.aload_n 0, 1) := dk_42_ (show cL_law.data.toList[1357]? = some 0x2a from (LBL_lawr_84 13).trans (by decide +kernel))
theorem dL_law_1358 : decode cL_law 1358 = .ok (.iload_n 3, 1) := dk_29_ (show cL_law.data.toList[1358]? = some 0x1d from (LBL_lawr_84 14).trans (by decide +kernel))
theorem dL_law_1359 : decode cL_law 1359 = .ok (.iconst 1, 1) := dk_4_ (show cL_law.data.toList[1359]? = some 0x04 from (LBL_lawr_84 15).trans (by decide +kernel))
theorem dL_law_1360 : decode cL_law 1360 = .ok (.iadd, 1) := dk_96_ (show cL_law.data.toList[1360]? = some 0x60 from (LBL_lawr_85 0).trans (by decide +kernel))
theorem dL_law_1361 : decode cL_law 1361 = .ok (.iaload, 1) := dk_46_ (show cL_law.data.toList[1361]? = some 0x2e from (LBL_lawr_85 1).trans (by decide +kernel))
theorem dL_law_1362 : decode cL_law 1362 = .ok (.aload_n 0, 1) := dk_42_ (show cL_law.data.toList[1362]? = some 0x2a from (LBL_lawr_85 2).trans (by decide +kernel))
theorem dL_law_1363 : decode cL_law 1363 = .ok (.iload_n 3, 1) := dk_29_ (show cL_law.data.toList[1363]? = some 0x1d from (LBL_lawr_85 3).trans (by decide +kernel))
theorem dL_law_1364 : decode cL_law 1364 = .ok (.iconst 2, 1) := dk_5_ (show cL_law.data.toList[1364]? = some 0x05 from (LBL_lawr_85 4).trans (by decide +kernel))
theorem dL_law_1365 : decode cL_law 1365 = .ok (.iadd, 1) := dk_96_ (show cL_law.data.toList[1365]? = some 0x60 from (LBL_lawr_85 5).trans (by decide +kernel))
theorem dL_law_1366 : decode cL_law 1366 = .ok (.iaload, 1) := dk_46_ (show cL_law.data.toList[1366]? = some 0x2e from (LBL_lawr_85 6).trans (by decide +kernel))
theorem dL_law_1367 : decode cL_law 1367 = .ok (.invokevirtual 174, 3) := dk_182_ (show cL_law.data.toList[1367]? = some 0xb6 from (LBL_lawr_85 7).trans (by decide +kernel)) (show cL_law.data.toList[1368]? = some 0x00 from (LBL_lawr_85 8).trans (by decide +kernel)) (show cL_law.data.toList[1369]? = some 0xae from (LBL_lawr_85 9).trans (by decide +kernel)) (by decide)
theorem dL_law_1370 : decode cL_law 1370 = .ok (.pop, 1) := dk_87_ (show cL_law.data.toList[1370]? = some 0x57 from (LBL_lawr_85 10).trans (by decide +kernel))
theorem dL_law_1371 : decode cL_law 1371 = .ok (.goto 111, 3) := dk_167_ (show cL_law.data.toList[1371]? = some 0xa7 from (LBL_lawr_85 11).trans (by decide +kernel)) (show cL_law.data.toList[1372]? = some 0x00 from (LBL_lawr_85 12).trans (by decide +kernel)) (show cL_law.data.toList[1373]? = some 0x6f from (LBL_lawr_85 13).trans (by decide +kernel)) (by decide)
theorem dL_law_1374 : decode cL_law 1374 = .ok (.aload_n 1, 1) := dk_43_ (show cL_law.data.toList[1374]? = some 0x2b from (LBL_lawr_85 14).trans (by decide +kernel))
theorem dL_law_1375 : decode cL_law 1375 = .ok (.aload_n 0, 1) := dk_42_ (show cL_law.data.toList[1375]? = some 0x2a from (LBL_lawr_85 15).trans (by decide +kernel))
theorem dL_law_1376 : decode cL_law 1376 = .ok (.iload_n 3, 1) := dk_29_ (show cL_law.data.toList[1376]? = some 0x1d from (LBL_lawr_86 0).trans (by decide +kernel))
theorem dL_law_1377 : decode cL_law 1377 = .ok (.iconst 1, 1) := dk_4_ (show cL_law.data.toList[1377]? = some 0x04 from (LBL_lawr_86 1).trans (by decide +kernel))
theorem dL_law_1378 : decode cL_law 1378 = .ok (.iadd, 1) := dk_96_ (show cL_law.data.toList[1378]? = some 0x60 from (LBL_lawr_86 2).trans (by decide +kernel))
theorem dL_law_1379 : decode cL_law 1379 = .ok (.iaload, 1) := dk_46_ (show cL_law.data.toList[1379]? = some 0x2e from (LBL_lawr_86 3).trans (by decide +kernel))
theorem dL_law_1380 : decode cL_law 1380 = .ok (.invokevirtual 175, 3) := dk_182_ (show cL_law.data.toList[1380]? = some 0xb6 from (LBL_lawr_86 4).trans (by decide +kernel)) (show cL_law.data.toList[1381]? = some 0x00 from (LBL_lawr_86 5).trans (by decide +kernel)) (show cL_law.data.toList[1382]? = some 0xaf from (LBL_lawr_86 6).trans (by decide +kernel)) (by decide)
theorem dL_law_1383 : decode cL_law 1383 = .ok (.pop, 1) := dk_87_ (show cL_law.data.toList[1383]? = some 0x57 from (LBL_lawr_86 7).trans (by decide +kernel))
theorem dL_law_1384 : decode cL_law 1384 = .ok (.aload_n 2, 1) := dk_44_ (show cL_law.data.toList[1384]? = some 0x2c from (LBL_lawr_86 8).trans (by decide +kernel))
theorem dL_law_1385 : decode cL_law 1385 = .ok (.aload_n 0, 1) := dk_42_ (show cL_law.data.toList[1385]? = some 0x2a from (LBL_lawr_86 9).trans (by decide +kernel))
theorem dL_law_1386 : decode cL_law 1386 = .ok (.iload_n 3, 1) := dk_29_ (show cL_law.data.toList[1386]? = some 0x1d from (LBL_lawr_86 10).trans (by decide +kernel))
theorem dL_law_1387 : decode cL_law 1387 = .ok (.iconst 1, 1) := dk_4_ (show cL_law.data.toList[1387]? = some 0x04 from (LBL_lawr_86 11).trans (by decide +kernel))
theorem dL_law_1388 : decode cL_law 1388 = .ok (.iadd, 1) := dk_96_ (show cL_law.data.toList[1388]? = some 0x60 from (LBL_lawr_86 12).trans (by decide +kernel))
theorem dL_law_1389 : decode cL_law 1389 = .ok (.iaload, 1) := dk_46_ (show cL_law.data.toList[1389]? = some 0x2e from (LBL_lawr_86 13).trans (by decide +kernel))
theorem dL_law_1390 : decode cL_law 1390 = .ok (.invokevirtual 178, 3) := dk_182_ (show cL_law.data.toList[1390]? = some 0xb6 from (LBL_lawr_86 14).trans (by decide +kernel)) (show cL_law.data.toList[1391]? = some 0x00 from (LBL_lawr_86 15).trans (by decide +kernel)) (show cL_law.data.toList[1392]? = some 0xb2 from (LBL_lawr_87 0).trans (by decide +kernel)) (by decide)
theorem dL_law_1393 : decode cL_law 1393 = .ok (.pop, 1) := dk_87_ (show cL_law.data.toList[1393]? = some 0x57 from (LBL_lawr_87 1).trans (by decide +kernel))
theorem dL_law_1394 : decode cL_law 1394 = .ok (.goto 88, 3) := dk_167_ (show cL_law.data.toList[1394]? = some 0xa7 from (LBL_lawr_87 2).trans (by decide +kernel)) (show cL_law.data.toList[1395]? = some 0x00 from (LBL_lawr_87 3).trans (by decide +kernel)) (show cL_law.data.toList[1396]? = some 0x58 from (LBL_lawr_87 4).trans (by decide +kernel)) (by decide)
theorem dL_law_1397 : decode cL_law 1397 = .ok (.aload_n 1, 1) := dk_43_ (show cL_law.data.toList[1397]? = some 0x2b from (LBL_lawr_87 5).trans (by decide +kernel))
theorem dL_law_1398 : decode cL_law 1398 = .ok (.invokevirtual 179, 3) := dk_182_ (show cL_law.data.toList[1398]? = some 0xb6 from (LBL_lawr_87 6).trans (by decide +kernel)) (show cL_law.data.toList[1399]? = some 0x00 from (LBL_lawr_87 7).trans (by decide +kernel)) (show cL_law.data.toList[1400]? = some 0xb3 from (LBL_lawr_87 8).trans (by decide +kernel)) (by decide)
theorem dL_law_1401 : decode cL_law 1401 = .ok (.pop, 1) := dk_87_ (show cL_law.data.toList[1401]? = some 0x57 from (LBL_lawr_87 9).trans (by decide +kernel))
theorem dL_law_1402 : decode cL_law 1402 = .ok (.aload_n 2, 1) := dk_44_ (show cL_law.data.toList[1402]? = some 0x2c from (LBL_lawr_87 10).trans (by decide +kernel))
theorem dL_law_1403 : decode cL_law 1403 = .ok (.invokevirtual 182, 3) := dk_182_ (show cL_law.data.toList[1403]? = some 0xb6 from (LBL_lawr_87 11).trans (by decide +kernel)) (show cL_law.data.toList[1404]? = some 0x00 from (LBL_lawr_87 12).trans (by decide +kernel)) (show cL_law.data.toList[1405]? = some 0xb6 from (LBL_lawr_87 13).trans (by decide +kernel)) (by decide)
theorem dL_law_1406 : decode cL_law 1406 = .ok (.pop, 1) := dk_87_ (show cL_law.data.toList[1406]? = some 0x57 from (LBL_lawr_87 14).trans (by decide +kernel))
theorem dL_law_1407 : decode cL_law 1407 = .ok (.goto 75, 3) := dk_167_ (show cL_law.data.toList[1407]? = some 0xa7 from (LBL_lawr_87 15).trans (by decide +kernel)) (show cL_law.data.toList[1408]? = some 0x00 from (LBL_lawr_88 0).trans (by decide +kernel)) (show cL_law.data.toList[1409]? = some 0x4b from (LBL_lawr_88 1).trans (by decide +kernel)) (by decide)
theorem dL_law_1410 : decode cL_law 1410 = .ok (.aload_n 1, 1) := dk_43_ (show cL_law.data.toList[1410]? = some 0x2b from (LBL_lawr_88 2).trans (by decide +kernel))
theorem dL_law_1411 : decode cL_law 1411 = .ok (.invokevirtual 183, 3) := dk_182_ (show cL_law.data.toList[1411]? = some 0xb6 from (LBL_lawr_88 3).trans (by decide +kernel)) (show cL_law.data.toList[1412]? = some 0x00 from (LBL_lawr_88 4).trans (by decide +kernel)) (show cL_law.data.toList[1413]? = some 0xb7 from (LBL_lawr_88 5).trans (by decide +kernel)) (by decide)
theorem dL_law_1414 : decode cL_law 1414 = .ok (.pop, 1) := dk_87_ (show cL_law.data.toList[1414]? = some 0x57 from (LBL_lawr_88 6).trans (by decide +kernel))
theorem dL_law_1415 : decode cL_law 1415 = .ok (.aload_n 2, 1) := dk_44_ (show cL_law.data.toList[1415]? = some 0x2c from (LBL_lawr_88 7).trans (by decide +kernel))
theorem dL_law_1416 : decode cL_law 1416 = .ok (.invokevirtual 186, 3) := dk_182_ (show cL_law.data.toList[1416]? = some 0xb6 from (LBL_lawr_88 8).trans (by decide +kernel)) (show cL_law.data.toList[1417]? = some 0x00 from (LBL_lawr_88 9).trans (by decide +kernel)) (show cL_law.data.toList[1418]? = some 0xba from (LBL_lawr_88 10).trans (by decide +kernel)) (by decide)
theorem dL_law_1419 : decode cL_law 1419 = .ok (.pop, 1) := dk_87_ (show cL_law.data.toList[1419]? = some 0x57 from (LBL_lawr_88 11).trans (by decide +kernel))
theorem dL_law_1420 : decode cL_law 1420 = .ok (.goto 62, 3) := dk_167_ (show cL_law.data.toList[1420]? = some 0xa7 from (LBL_lawr_88 12).trans (by decide +kernel)) (show cL_law.data.toList[1421]? = some 0x00 from (LBL_lawr_88 13).trans (by decide +kernel)) (show cL_law.data.toList[1422]? = some 0x3e from (LBL_lawr_88 14).trans (by decide +kernel)) (by decide)
theorem dL_law_1423 : decode cL_law 1423 = .ok (.aload_n 1, 1) := dk_43_ (show cL_law.data.toList[1423]? = some 0x2b from (LBL_lawr_88 15).trans (by decide +kernel))
theorem dL_law_1424 : decode cL_law 1424 = .ok (.invokevirtual 187, 3) := dk_182_ (show cL_law.data.toList[1424]? = some 0xb6 from (LBL_lawr_89 0).trans (by decide +kernel)) (show cL_law.data.toList[1425]? = some 0x00 from (LBL_lawr_89 1).trans (by decide +kernel)) (show cL_law.data.toList[1426]? = some 0xbb from (LBL_lawr_89 2).trans (by decide +kernel)) (by decide)
theorem dL_law_1427 : decode cL_law 1427 = .ok (.pop, 1) := dk_87_ (show cL_law.data.toList[1427]? = some 0x57 from (LBL_lawr_89 3).trans (by decide +kernel))
theorem dL_law_1428 : decode cL_law 1428 = .ok (.aload_n 2, 1) := dk_44_ (show cL_law.data.toList[1428]? = some 0x2c from (LBL_lawr_89 4).trans (by decide +kernel))
theorem dL_law_1429 : decode cL_law 1429 = .ok (.invokevirtual 190, 3) := dk_182_ (show cL_law.data.toList[1429]? = some 0xb6 from (LBL_lawr_89 5).trans (by decide +kernel)) (show cL_law.data.toList[1430]? = some 0x00 from (LBL_lawr_89 6).trans (by decide +kernel)) (show cL_law.data.toList[1431]? = some 0xbe from (LBL_lawr_89 7).trans (by decide +kernel)) (by decide)
theorem dL_law_1432 : decode cL_law 1432 = .ok (.pop, 1) := dk_87_ (show cL_law.data.toList[1432]? = some 0x57 from (LBL_lawr_89 8).trans (by decide +kernel))
theorem dL_law_1433 : decode cL_law 1433 = .ok (.goto 49, 3) := dk_167_ (show cL_law.data.toList[1433]? = some 0xa7 from (LBL_lawr_89 9).trans (by decide +kernel)) (show cL_law.data.toList[1434]? = some 0x00 from (LBL_lawr_89 10).trans (by decide +kernel)) (show cL_law.data.toList[1435]? = some 0x31 from (LBL_lawr_89 11).trans (by decide +kernel)) (by decide)
theorem dL_law_1436 : decode cL_law 1436 = .ok (.aload_n 1, 1) := dk_43_ (show cL_law.data.toList[1436]? = some 0x2b from (LBL_lawr_89 12).trans (by decide +kernel))
theorem dL_law_1437 : decode cL_law 1437 = .ok (.aload_n 0, 1) := dk_42_ (show cL_law.data.toList[1437]? = some 0x2a from (LBL_lawr_89 13).trans (by decide +kernel))
theorem dL_law_1438 : decode cL_law 1438 = .ok (.iload_n 3, 1) := dk_29_ (show cL_law.data.toList[1438]? = some 0x1d from (LBL_lawr_89 14).trans (by decide +kernel))
theorem dL_law_1439 : decode cL_law 1439 = .ok (.iconst 1, 1) := dk_4_ (show cL_law.data.toList[1439]? = some 0x04 from (LBL_lawr_89 15).trans (by decide +kernel))
theorem dL_law_1440 : decode cL_law 1440 = .ok (.iadd, 1) := dk_96_ (show cL_law.data.toList[1440]? = some 0x60 from (LBL_lawr_90 0).trans (by decide +kernel))
theorem dL_law_1441 : decode cL_law 1441 = .ok (.iaload, 1) := dk_46_ (show cL_law.data.toList[1441]? = some 0x2e from (LBL_lawr_90 1).trans (by decide +kernel))
theorem dL_law_1442 : decode cL_law 1442 = .ok (.invokevirtual 191, 3) := dk_182_ (show cL_law.data.toList[1442]? = some 0xb6 from (LBL_lawr_90 2).trans (by decide +kernel)) (show cL_law.data.toList[1443]? = some 0x00 from (LBL_lawr_90 3).trans (by decide +kernel)) (show cL_law.data.toList[1444]? = some 0xbf from (LBL_lawr_90 4).trans (by decide +kernel)) (by decide)
theorem dL_law_1445 : decode cL_law 1445 = .ok (.pop, 1) := dk_87_ (show cL_law.data.toList[1445]? = some 0x57 from (LBL_lawr_90 5).trans (by decide +kernel))
theorem dL_law_1446 : decode cL_law 1446 = .ok (.aload_n 2, 1) := dk_44_ (show cL_law.data.toList[1446]? = some 0x2c from (LBL_lawr_90 6).trans (by decide +kernel))
theorem dL_law_1447 : decode cL_law 1447 = .ok (.aload_n 0, 1) := dk_42_ (show cL_law.data.toList[1447]? = some 0x2a from (LBL_lawr_90 7).trans (by decide +kernel))
theorem dL_law_1448 : decode cL_law 1448 = .ok (.iload_n 3, 1) := dk_29_ (show cL_law.data.toList[1448]? = some 0x1d from (LBL_lawr_90 8).trans (by decide +kernel))
theorem dL_law_1449 : decode cL_law 1449 = .ok (.iconst 1, 1) := dk_4_ (show cL_law.data.toList[1449]? = some 0x04 from (LBL_lawr_90 9).trans (by decide +kernel))
theorem dL_law_1450 : decode cL_law 1450 = .ok (.iadd, 1) := dk_96_ (show cL_law.data.toList[1450]? = some 0x60 from (LBL_lawr_90 10).trans (by decide +kernel))
theorem dL_law_1451 : decode cL_law 1451 = .ok (.iaload, 1) := dk_46_ (show cL_law.data.toList[1451]? = some 0x2e from (LBL_lawr_90 11).trans (by decide +kernel))
theorem dL_law_1452 : decode cL_law 1452 = .ok (.invokevirtual 194, 3) := dk_182_ (show cL_law.data.toList[1452]? = some 0xb6 from (LBL_lawr_90 12).trans (by decide +kernel)) (show cL_law.data.toList[1453]? = some 0x00 from (LBL_lawr_90 13).trans (by decide +kernel)) (show cL_law.data.toList[1454]? = some 0xc2 from (LBL_lawr_90 14).trans (by decide +kernel)) (by decide)
theorem dL_law_1455 : decode cL_law 1455 = .ok (.pop, 1) := dk_87_ (show cL_law.data.toList[1455]? = some 0x57 from (LBL_lawr_90 15).trans (by decide +kernel))
theorem dL_law_1456 : decode cL_law 1456 = .ok (.goto 26, 3) := dk_167_ (show cL_law.data.toList[1456]? = some 0xa7 from (LBL_lawr_91 0).trans (by decide +kernel)) (show cL_law.data.toList[1457]? = some 0x00 from (LBL_lawr_91 1).trans (by decide +kernel)) (show cL_law.data.toList[1458]? = some 0x1a from (LBL_lawr_91 2).trans (by decide +kernel)) (by decide)
theorem dL_law_1459 : decode cL_law 1459 = .ok (.aload_n 1, 1) := dk_43_ (show cL_law.data.toList[1459]? = some 0x2b from (LBL_lawr_91 3).trans (by decide +kernel))
theorem dL_law_1460 : decode cL_law 1460 = .ok (.aload_n 0, 1) := dk_42_ (show cL_law.data.toList[1460]? = some 0x2a from (LBL_lawr_91 4).trans (by decide +kernel))
theorem dL_law_1461 : decode cL_law 1461 = .ok (.iload_n 3, 1) := dk_29_ (show cL_law.data.toList[1461]? = some 0x1d from (LBL_lawr_91 5).trans (by decide +kernel))
theorem dL_law_1462 : decode cL_law 1462 = .ok (.iconst 1, 1) := dk_4_ (show cL_law.data.toList[1462]? = some 0x04 from (LBL_lawr_91 6).trans (by decide +kernel))
theorem dL_law_1463 : decode cL_law 1463 = .ok (.iadd, 1) := dk_96_ (show cL_law.data.toList[1463]? = some 0x60 from (LBL_lawr_91 7).trans (by decide +kernel))
theorem dL_law_1464 : decode cL_law 1464 = .ok (.iaload, 1) := dk_46_ (show cL_law.data.toList[1464]? = some 0x2e from (LBL_lawr_91 8).trans (by decide +kernel))
theorem dL_law_1465 : decode cL_law 1465 = .ok (.invokevirtual 195, 3) := dk_182_ (show cL_law.data.toList[1465]? = some 0xb6 from (LBL_lawr_91 9).trans (by decide +kernel)) (show cL_law.data.toList[1466]? = some 0x00 from (LBL_lawr_91 10).trans (by decide +kernel)) (show cL_law.data.toList[1467]? = some 0xc3 from (LBL_lawr_91 11).trans (by decide +kernel)) (by decide)
theorem dL_law_1468 : decode cL_law 1468 = .ok (.pop, 1) := dk_87_ (show cL_law.data.toList[1468]? = some 0x57 from (LBL_lawr_91 12).trans (by decide +kernel))
theorem dL_law_1469 : decode cL_law 1469 = .ok (.aload_n 2, 1) := dk_44_ (show cL_law.data.toList[1469]? = some 0x2c from (LBL_lawr_91 13).trans (by decide +kernel))
theorem dL_law_1470 : decode cL_law 1470 = .ok (.aload_n 0, 1) := dk_42_ (show cL_law.data.toList[1470]? = some 0x2a from (LBL_lawr_91 14).trans (by decide +kernel))
theorem dL_law_1471 : decode cL_law 1471 = .ok (.iload_n 3, 1) := dk_29_ (show cL_law.data.toList[1471]? = some 0x1d from (LBL_lawr_91 15).trans (by decide +kernel))
theorem dL_law_1472 : decode cL_law 1472 = .ok (.iconst 1, 1) := dk_4_ (show cL_law.data.toList[1472]? = some 0x04 from (LBL_lawr_92 0).trans (by decide +kernel))
theorem dL_law_1473 : decode cL_law 1473 = .ok (.iadd, 1) := dk_96_ (show cL_law.data.toList[1473]? = some 0x60 from (LBL_lawr_92 1).trans (by decide +kernel))
theorem dL_law_1474 : decode cL_law 1474 = .ok (.iaload, 1) := dk_46_ (show cL_law.data.toList[1474]? = some 0x2e from (LBL_lawr_92 2).trans (by decide +kernel))
theorem dL_law_1475 : decode cL_law 1475 = .ok (.invokevirtual 198, 3) := dk_182_ (show cL_law.data.toList[1475]? = some 0xb6 from (LBL_lawr_92 3).trans (by decide +kernel)) (show cL_law.data.toList[1476]? = some 0x00 from (LBL_lawr_92 4).trans (by decide +kernel)) (show cL_law.data.toList[1477]? = some 0xc6 from (LBL_lawr_92 5).trans (by decide +kernel)) (by decide)
theorem dL_law_1478 : decode cL_law 1478 = .ok (.pop, 1) := dk_87_ (show cL_law.data.toList[1478]? = some 0x57 from (LBL_lawr_92 6).trans (by decide +kernel))
theorem dL_law_1479 : decode cL_law 1479 = .ok (.goto 3, 3) := dk_167_ (show cL_law.data.toList[1479]? = some 0xa7 from (LBL_lawr_92 7).trans (by decide +kernel)) (show cL_law.data.toList[1480]? = some 0x00 from (LBL_lawr_92 8).trans (by decide +kernel)) (show cL_law.data.toList[1481]? = some 0x03 from (LBL_lawr_92 9).trans (by decide +kernel)) (by decide)
theorem dL_law_1482 : decode cL_law 1482 = .ok (.iinc 3 6, 3) := dk_132_ (show cL_law.data.toList[1482]? = some 0x84 from (LBL_lawr_92 10).trans (by decide +kernel)) (show cL_law.data.toList[1483]? = some 0x03 from (LBL_lawr_92 11).trans (by decide +kernel)) (show cL_law.data.toList[1484]? = some 0x06 from (LBL_lawr_92 12).trans (by decide +kernel)) (by decide) (by decide)
theorem dL_law_1485 : decode cL_law 1485 = .ok (.goto (-1467), 3) := dk_167_ (show cL_law.data.toList[1485]? = some 0xa7 from (LBL_lawr_92 13).trans (by decide +kernel)) (show cL_law.data.toList[1486]? = some 0xfa from (LBL_lawr_92 14).trans (by decide +kernel)) (show cL_law.data.toList[1487]? = some 0x45 from (LBL_lawr_92 15).trans (by decide +kernel)) (by decide)
theorem dL_law_1488 : decode cL_law 1488 = .ok (.iconst 1, 1) := dk_4_ (show cL_law.data.toList[1488]? = some 0x04 from (LBL_lawr_93 0).trans (by decide +kernel))
theorem dL_law_1489 : decode cL_law 1489 = .ok (.ireturn, 1) := dk_172_ (show cL_law.data.toList[1489]? = some 0xac from (LBL_lawr_93 1).trans (by decide +kernel))
